/-! ORDER: felons as bits; lv: who is a win; fc, nx: by what a name multiplies, how strong it leaves him -/
def b2n (b : Bool) : Nat := if b = true then 1 else 0
def cnt8 (x : Nat) : Nat := b2n (x.testBit 0) + b2n (x.testBit 1) + b2n (x.testBit 2) + b2n (x.testBit 3) + b2n (x.testBit 4) + b2n (x.testBit 5) + b2n (x.testBit 6) + b2n (x.testBit 7)
def mxl (h : Nat → Nat) : Nat → Nat
  | 0 => 0
  | f + 1 => if mxl h f < h f then h f else mxl h f
def lst (p : Nat → Bool) : Nat → Nat → Option Nat
  | 0, _ => none
  | d + 1, i => if p i = true then some i else lst p d (i + 1)
theorem cnt8_le (x : Nat) : cnt8 x ≤ 8 := by
  have h : ∀ b, b2n b ≤ 1 := by decide
  have h0 := h (x.testBit 0); have h1 := h (x.testBit 1); have h2 := h (x.testBit 2); have h3 := h (x.testBit 3)
  have h4 := h (x.testBit 4); have h5 := h (x.testBit 5); have h6 := h (x.testBit 6); have h7 := h (x.testBit 7)
  unfold cnt8
  omega
theorem tb_or (m lv f j : Nat) : ((m ||| 2 ^ f) &&& lv).testBit j = ((m.testBit j || decide (f = j)) && lv.testBit j) := by
  simp [Nat.testBit_two_pow]
theorem cnt8_or {m lv f : Nat} (hf : f < 8) (hm : m.testBit f = false) : cnt8 ((m ||| 2 ^ f) &&& lv) = cnt8 (m &&& lv) + b2n (lv.testBit f) := by
  have e : ∀ j, (m &&& lv).testBit j = (m.testBit j && lv.testBit j) := fun j => by simp
  simp only [cnt8, tb_or, e]
  match f, hf, hm with
  | 0, _, hm => simp [hm, b2n]; omega
  | 1, _, hm => simp [hm, b2n]; omega
  | 2, _, hm => simp [hm, b2n]; omega
  | 3, _, hm => simp [hm, b2n]; omega
  | 4, _, hm => simp [hm, b2n]; omega
  | 5, _, hm => simp [hm, b2n]; omega
  | 6, _, hm => simp [hm, b2n]; omega
  | 7, _, hm => simp [hm, b2n]
  | f + 8, hf, _ => omega
theorem sh1 : ∀ f, f < 16 → (1 : Int32) <<< (nI f &&& 31) = nI (2 ^ f) := by decide +kernel
theorem s31 : ∀ f, f < 16 → ((nI f &&& 31).toBitVec.smod 32).toNat = f := by decide +kernel
theorem shr_bit {m f : Nat} (hm : m < 2 ^ 31) (hf : f < 16) : nI m >>> (nI f &&& 31) &&& 1 = if m.testBit f = true then 1 else 0 := by
  rw [pk_shrN hm (nI f &&& 31) f (s31 f hf)]
  rw [show (1 : Int32) = nI 1 from rfl, nx_and, Nat.and_one_is_mod, Nat.testBit_eq_decide_div_mod_eq]
  rcases Nat.mod_two_eq_zero_or_one (m / 2 ^ f) with h | h <;> simp [h] <;> rfl
theorem bit_f {m f : Nat} (h : ¬ (if m.testBit f = true then (1 : Int32) else 0) = 0) : m.testBit f = true := by
  by_cases q : m.testBit f = true
  · exact q
  · rw [if_neg q] at h; exact absurd rfl h
theorem bit_t {m f : Nat} (h : (if m.testBit f = true then (1 : Int32) else 0) = 0) : m.testBit f = false := by
  by_cases q : m.testBit f = true
  · rw [if_pos q] at h; exact absurd h (by decide)
  · simpa using q
theorem or_lt {m f g : Nat} (hm : m < 2 ^ g) (hf : f < g) : m ||| 2 ^ f < 2 ^ g := Nat.or_lt_two_pow hm (Nat.pow_lt_pow_right (by decide) hf)
theorem or_gt {m f : Nat} (hf : m.testBit f = false) : m < m ||| 2 ^ f := by
  have h1 : m ≤ m ||| 2 ^ f := Nat.left_le_or
  rcases Nat.lt_or_ge m (m ||| 2 ^ f) with h | h
  · exact h
  · have h2 : m ||| 2 ^ f = m := Nat.le_antisymm h h1
    have h3 : (m ||| 2 ^ f).testBit f = true := by simp [Nat.testBit_two_pow]
    rw [h2, hf] at h3
    cases h3
theorem bc_ok : ∀ x, x < 256 → (fun v : Int32 => (fun a : Int32 => (fun b : Int32 => (fun c : Int32 => (fun d : Int32 => (d + (d.toUInt32 >>> ((16 : Int32).toUInt32 &&& Int32.toUInt32 31)).toInt32) &&& 63) (c + (c.toUInt32 >>> ((8 : Int32).toUInt32 &&& Int32.toUInt32 31)).toInt32)) (b + (b.toUInt32 >>> ((4 : Int32).toUInt32 &&& Int32.toUInt32 31)).toInt32 &&& 252645135)) ((a &&& 858993459) + ((a.toUInt32 >>> ((2 : Int32).toUInt32 &&& Int32.toUInt32 31)).toInt32 &&& 858993459))) (v - ((v.toUInt32 >>> ((1 : Int32).toUInt32 &&& Int32.toUInt32 31)).toInt32 &&& 1431655765))) (nI x) = nI (cnt8 x) := by decide +kernel
set_option maxRecDepth 100000 in
theorem ev_J6_bitCount_0f7a4 (x : Nat) (hx : x < 256) : Ev MJ6_bitCount_0f7a4 [.int (nI x)] [] (Ri [] (nI (cnt8 x))) := by
  refine ev_of bJ6_bitCount_0f7a4 [some (.int (nI x))] (Nat.le_of_ble_eq_true rfl) rfl ?_
  refine go_iload_n dJ6_bitCount_0f7a4_0 rfl ?_
  refine go_iload_n dJ6_bitCount_0f7a4_1 rfl ?_
  refine go_iconst (1) dJ6_bitCount_0f7a4_2 (by decide) ?_
  refine go_iushr dJ6_bitCount_0f7a4_3 ?_
  refine go_ldc_w dJ6_bitCount_0f7a4_4 kJ6_265 ?_
  refine go_iand dJ6_bitCount_0f7a4_7 ?_
  refine go_isub dJ6_bitCount_0f7a4_8 ?_
  refine go_istore_n dJ6_bitCount_0f7a4_9 (by decide) ?_
  refine go_iload_n dJ6_bitCount_0f7a4_10 rfl ?_
  refine go_ldc_w dJ6_bitCount_0f7a4_11 kJ6_266 ?_
  refine go_iand dJ6_bitCount_0f7a4_14 ?_
  refine go_iload_n dJ6_bitCount_0f7a4_15 rfl ?_
  refine go_iconst (2) dJ6_bitCount_0f7a4_16 (by decide) ?_
  refine go_iushr dJ6_bitCount_0f7a4_17 ?_
  refine go_ldc_w dJ6_bitCount_0f7a4_18 kJ6_266 ?_
  refine go_iand dJ6_bitCount_0f7a4_21 ?_
  refine go_iadd dJ6_bitCount_0f7a4_22 ?_
  refine go_istore_n dJ6_bitCount_0f7a4_23 (by decide) ?_
  refine go_iload_n dJ6_bitCount_0f7a4_24 rfl ?_
  refine go_iload_n dJ6_bitCount_0f7a4_25 rfl ?_
  refine go_iconst (4) dJ6_bitCount_0f7a4_26 (by decide) ?_
  refine go_iushr dJ6_bitCount_0f7a4_27 ?_
  refine go_iadd dJ6_bitCount_0f7a4_28 ?_
  refine go_ldc_w dJ6_bitCount_0f7a4_29 kJ6_267 ?_
  refine go_iand dJ6_bitCount_0f7a4_32 ?_
  refine go_istore_n dJ6_bitCount_0f7a4_33 (by decide) ?_
  refine go_iload_n dJ6_bitCount_0f7a4_34 rfl ?_
  refine go_iload_n dJ6_bitCount_0f7a4_35 rfl ?_
  refine go_bipush (8) dJ6_bitCount_0f7a4_36 (by decide) ?_
  refine go_iushr dJ6_bitCount_0f7a4_38 ?_
  refine go_iadd dJ6_bitCount_0f7a4_39 ?_
  refine go_istore_n dJ6_bitCount_0f7a4_40 (by decide) ?_
  refine go_iload_n dJ6_bitCount_0f7a4_41 rfl ?_
  refine go_iload_n dJ6_bitCount_0f7a4_42 rfl ?_
  refine go_bipush (16) dJ6_bitCount_0f7a4_43 (by decide) ?_
  refine go_iushr dJ6_bitCount_0f7a4_45 ?_
  refine go_iadd dJ6_bitCount_0f7a4_46 ?_
  refine go_istore_n dJ6_bitCount_0f7a4_47 (by decide) ?_
  refine go_iload_n dJ6_bitCount_0f7a4_48 rfl ?_
  refine go_bipush (63) dJ6_bitCount_0f7a4_49 (by decide) ?_
  refine go_iand dJ6_bitCount_0f7a4_51 ?_
  refine go_ireturn dJ6_bitCount_0f7a4_52 rfl rfl (Nat.le_of_ble_eq_true rfl) (Nat.le_of_ble_eq_true rfl) ?_
  exact ⟨congrArg (fun v => some (Value.int v)) (bc_ok x hx), rfl⟩
set_option maxRecDepth 100000 in
theorem ev_X5_winsOf (len mk : Int32) (abv : Int64) (val : Nat → Int64) (fac stb rw_ : Nat → Int32) (fel af goal : Int32) (lv m : Nat) (hl : lv < 256) (hm : m < 256) : Ev MX5_winsOf [.ref 0, .int (nI m)] [zO 4 [.ref 1, .ref 2, .ref 3, .ref 4, .int fel, .int (nI lv), .int af, .int goal, .int len, .long abv, .int mk], zL 2560 val, zI 80 fac, zI 80 stb, zI 8 rw_] (Ri [zO 4 [.ref 1, .ref 2, .ref 3, .ref 4, .int fel, .int (nI lv), .int af, .int goal, .int len, .long abv, .int mk], zL 2560 val, zI 80 fac, zI 80 stb, zI 8 rw_] (nI (cnt8 (m &&& lv)))) := by
  refine ev_of bX5_winsOf [some (.ref 0), some (.int (nI m))] (Nat.le_of_ble_eq_true rfl) rfl ?_
  refine go_iload_n dX5_winsOf_0 rfl ?_
  refine go_aload_n dX5_winsOf_1 rfl ?_
  refine go_getf fX5_61 dX5_winsOf_2 rfl rfl ?_
  refine go_iand dX5_winsOf_5 ?_
  rw [nx_and]
  refine go_callSi (z := MJ6_bitCount_0f7a4) [] dX5_winsOf_6 lX5_102 sJ6_bitCount_0f7a4 (ev_J6_bitCount_0f7a4 (m &&& lv) (Nat.lt_of_le_of_lt Nat.and_le_left hm)) rfl rfl rfl rfl rfl rfl ?_
  refine go_ireturn dX5_winsOf_9 rfl rfl (Nat.le_of_ble_eq_true rfl) (Nat.le_of_ble_eq_true rfl) ?_
  exact ⟨rfl, rfl⟩
set_option maxRecDepth 100000 in
theorem ev_X5_prepare (len mk : Int32) (abv : Int64) (val : Nat → Int64) (fac stb rw_ : Nat → Int32) (fel goal lv c foe : Int32) (f s0 : Nat) (hf : f < 8) (hs : s0 ≤ 9) : Ev MX5_prepare [.ref 0, .int (nI f), .int c, .int foe] [zO 4 [.ref 1, .ref 2, .ref 3, .ref 4, .int fel, .int lv, .int (nI s0), .int goal, .int len, .long abv, .int mk], zL 2560 val, zI 80 fac, zI 80 stb, zI 8 rw_] (fun v w => v = none ∧ ∃ fac2 stb2 : Nat → Int32, w = [zO 4 [.ref 1, .ref 2, .ref 3, .ref 4, .int fel, .int (lv ||| (if winI c = 0 then 0 else nI (2 ^ f))), .int (nI s0), .int goal, .int len, .long abv, .int mk], zL 2560 val, zI 80 fac2, zI 80 stb2, zI 8 rw_] ∧ (∀ s, s ≤ s0 → fac2 (10 * f + s) = (if winI c = 0 then 1 else sixI c (nI s) foe) ∧ stb2 (10 * f + s) = strI c (nI s) (nI s0)) ∧ ∀ i, i < 10 * f → fac2 i = fac i ∧ stb2 i = stb i) := by
  refine ev_of bX5_prepare [some (.ref 0), some (.int (nI f)), some (.int c), some (.int foe), none, none, none] (Nat.le_of_ble_eq_true rfl) rfl ?_
  refine go_iload_n dX5_prepare_0 rfl ?_
  refine go_callSi (z := MX8_isWin) [] dX5_prepare_1 lX5_90 sX8_isWin (ev_X8_isWin c) rfl rfl rfl rfl rfl rfl ?_
  rw [show (if c = 1 ∨ c = 2 ∨ c = 3 then (1 : Int32) else 0) = winI c from rfl]
  refine go_istore dX5_prepare_4 (by decide) ?_
  refine go_aload_n dX5_prepare_6 rfl ?_
  refine go_dup dX5_prepare_7 rfl ?_
  refine go_getf fX5_61 dX5_prepare_8 rfl rfl ?_
  refine go_iload dX5_prepare_11 rfl ?_
  refine go_cut1 (J := 23) (fun v => v = if winI c = 0 then 0 else nI (2 ^ f)) (fun v_23 hv_23 => ?_) (fun kk_23 => ?_)
  case refine_2 =>
    refine go_if_eq 22 dX5_prepare_13 (by decide) (fun c_13 => ?_) (fun c_13 => ?_)
    · refine go_iconst (0) dX5_prepare_22 (by decide) ?_
      exact kk_23 _ (by first | (rw [if_neg c_13]; exact sh1 f (by omega)) | (rw [if_pos c_13]))
    · refine go_iconst (1) dX5_prepare_16 (by decide) ?_
      refine go_iload_n dX5_prepare_17 rfl ?_
      refine go_ishl dX5_prepare_18 ?_
      refine go_goto 23 dX5_prepare_19 (by decide) ?_
      exact kk_23 _ (by first | (rw [if_neg c_13]; exact sh1 f (by omega)) | (rw [if_pos c_13]))
  subst hv_23
  refine go_ior dX5_prepare_23 ?_
  refine go_putf fX5_61 dX5_prepare_24 rfl (fun _ _ _ h => by cases h; rfl) (fun _ => rfl) (fun _ => rfl) (Nat.le_of_ble_eq_true rfl) ?_
  refine go_iconst (0) dX5_prepare_27 (by decide) ?_
  refine go_istore dX5_prepare_28 (by decide) ?_
  suffices loop : ∀ (d i : Nat) (fac2 stb2 : Nat → Int32) (x6 : Option Value), i + d = s0 + 1 → (∀ s, s < i → fac2 (10 * f + s) = (if winI c = 0 then 1 else sixI c (nI s) foe) ∧ stb2 (10 * f + s) = strI c (nI s) (nI s0)) → (∀ i, i < 10 * f → fac2 i = fac i ∧ stb2 i = stb i) → Go X0 MX5_prepare (fun v w => v = none ∧ ∃ fac2 stb2 : Nat → Int32, w = [zO 4 [.ref 1, .ref 2, .ref 3, .ref 4, .int fel, .int (lv ||| (if winI c = 0 then 0 else nI (2 ^ f))), .int (nI s0), .int goal, .int len, .long abv, .int mk], zL 2560 val, zI 80 fac2, zI 80 stb2, zI 8 rw_] ∧ (∀ s, s ≤ s0 → fac2 (10 * f + s) = (if winI c = 0 then 1 else sixI c (nI s) foe) ∧ stb2 (10 * f + s) = strI c (nI s) (nI s0)) ∧ ∀ i, i < 10 * f → fac2 i = fac i ∧ stb2 i = stb i) 5 0 0 30 [some (.ref 0), some (.int (nI f)), some (.int c), some (.int foe), some (.int (winI c)), some (.int (nI i)), x6] [] [zO 4 [.ref 1, .ref 2, .ref 3, .ref 4, .int fel, .int (lv ||| (if winI c = 0 then 0 else nI (2 ^ f))), .int (nI s0), .int goal, .int len, .long abv, .int mk], zL 2560 val, zI 80 fac2, zI 80 stb2, zI 8 rw_] from loop (s0 + 1) 0 fac stb _ (by omega) (fun s h => absurd h (by omega)) (fun _ _ => ⟨rfl, rfl⟩)
  intro d
  induction d with
  | zero =>
    intro i fac2 stb2 x6 hi h1 h2
    refine go_iload dX5_prepare_30 rfl ?_
    refine go_aload_n dX5_prepare_32 rfl ?_
    refine go_getf fX5_52 dX5_prepare_33 rfl rfl ?_
    refine go_icmp_gt 94 dX5_prepare_36 (by decide) (fun _ => ?_) (fun c_36 => absurd (nI_lt (by omega) (by omega)) c_36)
    refine go_return dX5_prepare_94 rfl (Nat.le_of_ble_eq_true rfl) (Nat.le_of_ble_eq_true rfl) ?_
    exact ⟨rfl, fac2, stb2, rfl, fun s h => h1 s (by omega), h2⟩
  | succ d ih =>
    intro i fac2 stb2 x6 hi h1 h2
    refine go_iload dX5_prepare_30 rfl ?_
    refine go_aload_n dX5_prepare_32 rfl ?_
    refine go_getf fX5_52 dX5_prepare_33 rfl rfl ?_
    refine go_icmp_gt 94 dX5_prepare_36 (by decide) (fun c_36 => absurd c_36 (nI_nlt (by omega) (by omega))) (fun _ => ?_)
    refine go_iload_n dX5_prepare_39 rfl ?_
    refine go_bipush (10) dX5_prepare_40 (by decide) ?_
    refine go_imul dX5_prepare_42 ?_
    refine go_iload dX5_prepare_43 rfl ?_
    refine go_iadd dX5_prepare_45 ?_
    rw [show nI f * 10 + nI i = nI (10 * f + i) by rw [show (10 : Int32) = nI 10 from rfl, pk_mul, nI_add]; exact nI_e (by omega)]
    refine go_istore dX5_prepare_46 (by decide) ?_
    refine go_aload_n dX5_prepare_48 rfl ?_
    refine go_getf fX5_15 dX5_prepare_49 rfl rfl ?_
    refine go_iload dX5_prepare_52 rfl ?_
    refine go_iload dX5_prepare_54 rfl ?_
    refine go_cut1 (J := 70) (fun v => v = if winI c = 0 then 1 else sixI c (nI i) foe) (fun v_70 hv_70 => ?_) (fun kk_70 => ?_)
    case refine_2 =>
      refine go_if_eq 69 dX5_prepare_56 (by decide) (fun c_56 => ?_) (fun c_56 => ?_)
      · refine go_iconst (1) dX5_prepare_69 (by decide) ?_
        exact kk_70 _ (by simp [c_56])
      · refine go_iload_n dX5_prepare_59 rfl ?_
        refine go_iload dX5_prepare_60 rfl ?_
        refine go_iload_n dX5_prepare_62 rfl ?_
        refine go_callSi (z := MX8_sixteenths) [] dX5_prepare_63 lX5_96 sX8_sixteenths (ev_X8_sixteenths c (nI i) foe) rfl rfl rfl rfl rfl rfl ?_
        refine go_goto 70 dX5_prepare_66 (by decide) ?_
        exact kk_70 _ (by simp [c_56])
    subst hv_70
    refine go_iast dX5_prepare_70 rfl (vp_in_nI (by omega) (by decide)) ?_
    refine go_aload_n dX5_prepare_71 rfl ?_
    refine go_getf fX5_19 dX5_prepare_72 rfl rfl ?_
    refine go_iload dX5_prepare_75 rfl ?_
    refine go_iload_n dX5_prepare_77 rfl ?_
    refine go_iload dX5_prepare_78 rfl ?_
    refine go_aload_n dX5_prepare_80 rfl ?_
    refine go_getf fX5_52 dX5_prepare_81 rfl rfl ?_
    refine go_callSi (z := MX8_strongBehind) [] dX5_prepare_84 lX5_100 sX8_strongBehind (ev_X8_strongBehind c (nI i) (nI s0)) rfl rfl rfl rfl rfl rfl ?_
    refine go_iast dX5_prepare_87 rfl (vp_in_nI (by omega) (by decide)) ?_
    refine go_iincN (1) dX5_prepare_88 rfl (by decide) (by decide) ?_
    refine go_goto 30 dX5_prepare_91 (by decide) ?_
    rw [nI_1]
    simp only [nI_clamp (show 10 * f + i < 2 ^ 31 by omega)]
    refine ih (i + 1) _ _ _ (by omega) (fun s hs => ?_) (fun t ht => ?_)
    · by_cases he : s = i
      · subst he; exact ⟨pk_us, pk_us⟩
      · rw [pk_un (by omega), pk_un (by omega)]; exact h1 s (by omega)
    · rw [pk_un (by omega), pk_un (by omega)]; exact h2 t ht
set_option maxRecDepth 100000 in
theorem ev_X5_valueIfNext (len mk : Int32) (abv : Int64) (val : Nat → Int64) (fac stb rw_ : Nat → Int32) (fel lvI af goal : Int32) (m s f a b v : Nat) (hm : m < 256) (hs : s ≤ 9) (hf : f < 8) (hb : b ≤ 9) (ha : fac (10 * f + s) = nI a) (hst : stb (10 * f + s) = nI b) (hv : val (10 * (m ||| 2 ^ f) + b) = lN v) (ha2 : a < 2 ^ 31) : Ev MX5_valueIfNext [.ref 0, .int (nI m), .int (nI s), .int (nI f)] [zO 4 [.ref 1, .ref 2, .ref 3, .ref 4, .int fel, .int lvI, .int af, .int goal, .int len, .long abv, .int mk], zL 2560 val, zI 80 fac, zI 80 stb, zI 8 rw_] (Rj [zO 4 [.ref 1, .ref 2, .ref 3, .ref 4, .int fel, .int lvI, .int af, .int goal, .int len, .long abv, .int mk], zL 2560 val, zI 80 fac, zI 80 stb, zI 8 rw_] (lN (a * v))) := by
  refine ev_of bX5_valueIfNext [some (.ref 0), some (.int (nI m)), some (.int (nI s)), some (.int (nI f)), none] (Nat.le_of_ble_eq_true rfl) rfl ?_
  refine go_iload_n dX5_valueIfNext_0 rfl ?_
  refine go_bipush (10) dX5_valueIfNext_1 (by decide) ?_
  refine go_imul dX5_valueIfNext_3 ?_
  refine go_iload_n dX5_valueIfNext_4 rfl ?_
  refine go_iadd dX5_valueIfNext_5 ?_
  rw [show nI f * 10 + nI s = nI (10 * f + s) by rw [show (10 : Int32) = nI 10 from rfl, pk_mul, nI_add]; exact nI_e (by omega)]
  refine go_istore dX5_valueIfNext_6 (by decide) ?_
  refine go_aload_n dX5_valueIfNext_8 rfl ?_
  refine go_getf fX5_15 dX5_valueIfNext_9 rfl rfl ?_
  refine go_iload dX5_valueIfNext_12 rfl ?_
  refine go_iald dX5_valueIfNext_14 rfl (vp_in_nI (by omega) (by decide)) ?_
  rw [nI_clamp (show 10 * f + s < 2 ^ 31 by omega), ha]
  refine go_i2l dX5_valueIfNext_15 ?_
  rw [nI_l ha2]
  refine go_aload_n dX5_valueIfNext_16 rfl ?_
  refine go_getf fX5_11 dX5_valueIfNext_17 rfl rfl ?_
  refine go_iload_n dX5_valueIfNext_20 rfl ?_
  refine go_iconst (1) dX5_valueIfNext_21 (by decide) ?_
  refine go_iload_n dX5_valueIfNext_22 rfl ?_
  refine go_ishl dX5_valueIfNext_23 ?_
  refine go_ior dX5_valueIfNext_24 ?_
  rw [sh1 f (by omega), fa_or]
  refine go_bipush (10) dX5_valueIfNext_25 (by decide) ?_
  refine go_imul dX5_valueIfNext_27 ?_
  refine go_aload_n dX5_valueIfNext_28 rfl ?_
  refine go_getf fX5_19 dX5_valueIfNext_29 rfl rfl ?_
  refine go_iload dX5_valueIfNext_32 rfl ?_
  refine go_iald dX5_valueIfNext_34 rfl (vp_in_nI (by omega) (by decide)) ?_
  have hor := or_lt (g := 8) hm hf
  rw [nI_clamp (show 10 * f + s < 2 ^ 31 by omega), hst]
  refine go_iadd dX5_valueIfNext_35 ?_
  rw [show nI (m ||| 2 ^ f) * 10 + nI b = nI (10 * (m ||| 2 ^ f) + b) by rw [show (10 : Int32) = nI 10 from rfl, pk_mul, nI_add]; exact nI_e (by omega)]
  refine go_lald dX5_valueIfNext_36 rfl (vp_in_nI (by omega) (by decide)) ?_
  rw [nI_clamp (show 10 * (m ||| 2 ^ f) + b < 2 ^ 31 by omega), hv]
  refine go_lmul dX5_valueIfNext_37 ?_
  rw [lN_mul]
  refine go_lreturn dX5_valueIfNext_38 rfl (Nat.le_of_ble_eq_true rfl) (Nat.le_of_ble_eq_true rfl) ?_
  exact ⟨rfl, rfl⟩
