section CutL
variable {X : (Nat → Nat) → State → (Nat → Prop) → Prop} {M : MD} {Q : Option Value → List AE → Prop} {n0 cn sn pc : Nat} {L : List (Option Value)} {st : List Value} {w : List AE}
theorem go_cut2L {J : Nat} {a b : Value} (P : Int64 → Prop) (k : ∀ x, P x → Go X M Q n0 cn sn J L (.long x :: st) w) (arm : (∀ x, P x → Go X M Q n0 cn sn J L (.long x :: st) w) → Go X M Q n0 cn sn pc L (a :: b :: st) w) : Go X M Q n0 cn sn pc L (a :: b :: st) w := arm k
theorem go_cut1L {J : Nat} {a : Value} (P : Int64 → Prop) (k : ∀ x, P x → Go X M Q n0 cn sn J L (.long x :: st) w) (arm : (∀ x, P x → Go X M Q n0 cn sn J L (.long x :: st) w) → Go X M Q n0 cn sn pc L (a :: st) w) : Go X M Q n0 cn sn pc L (a :: st) w := arm k
end CutL
/-- the tables of a plan -/
def FTb (g s0 : Nat) (fc nx : Nat → Nat → Nat) (fac stb : Nat → Int32) : Prop := ∀ f s, f < g → s ≤ s0 → fac (10 * f + s) = nI (fc f s) ∧ stb (10 * f + s) = nI (nx f s)
def FBd (g s0 lv : Nat) (fc nx : Nat → Nat → Nat) : Prop := ∀ f s, f < g → s ≤ s0 → fc f s ≤ 16 ∧ nx f s ≤ s0 ∧ s ≤ nx f s + b2n (lv.testBit f) ∧ (lv.testBit f = false → fc f s = 1)
def okr (lv s0 m s : Nat) : Prop := s ≤ s0 ∧ s0 ≤ s + cnt8 (m &&& lv)
/-- the best that can come behind the felons m when he is s strong -/
def hnx (fc nx vt : Nat → Nat → Nat) (m s f : Nat) : Nat := if m.testBit f = true then 0 else fc f s * vt (m ||| 2 ^ f) (nx f s)
def vrec (g lv gl : Nat) (fc nx vt : Nat → Nat → Nat) (m s : Nat) : Nat := if gl ≤ cnt8 (m &&& lv) then 1 else mxl (hnx fc nx vt m s) g
def IsV (g lv gl s0 : Nat) (fc nx vt : Nat → Nat → Nat) (m : Nat) : Prop := ∀ s, okr lv s0 m s → vt m s = vrec g lv gl fc nx vt m s ∧ vt m s ≤ 16 ^ (gl - cnt8 (m &&& lv))
def VAt (lv s0 : Nat) (val : Nat → Int64) (vt : Nat → Nat → Nat) (m : Nat) : Prop := ∀ s, okr lv s0 m s → val (10 * m + s) = lN (vt m s)
def pnx (fc nx vt : Nat → Nat → Nat) (m s : Nat) (f : Nat) : Bool := !m.testBit f && decide (fc f s * vt (m ||| 2 ^ f) (nx f s) = vt m s)
def grow (g lv gl : Nat) (fc nx vt : Nat → Nat → Nat) : Nat → Nat → Nat → List Nat
  | 0, _, _ => []
  | d + 1, m, s => if gl ≤ cnt8 (m &&& lv) then [] else match lst (pnx fc nx vt m s) g 0 with
    | none => []
    | some f => f :: grow g lv gl fc nx vt d (m ||| 2 ^ f) (nx f s)
theorem okr_nx {g s0 lv : Nat} {fc nx : Nat → Nat → Nat} (hb : FBd g s0 lv fc nx) {m s f : Nat} (hf : f < g) (hg : g ≤ 8) (hm : m.testBit f = false) (h : okr lv s0 m s) : okr lv s0 (m ||| 2 ^ f) (nx f s) := by
  obtain ⟨h1, h2, h3, -⟩ := hb f s hf h.1
  have h4 := h.2
  refine ⟨h2, ?_⟩
  rw [cnt8_or (by omega) hm]
  omega
theorem lmaxN {a b : Nat} (ha : a < 2 ^ 62) (hb : b < 2 ^ 62) : (if lN b < lN a then lN a else lN b) = lN (if a < b then b else a) := by
  by_cases h : b < a
  · rw [if_pos ((pk_lLT (by omega) (by omega)).mpr h), if_neg (by omega)]
  · rw [if_neg (fun q => h ((pk_lLT (by omega) (by omega)).mp q))]
    by_cases h2 : a < b
    · rw [if_pos h2]
    · rw [if_neg h2, show a = b by omega]
theorem pow16 {k : Nat} (h : k ≤ 8) : 16 ^ k ≤ 2 ^ 32 := by
  have : (16 : Nat) ^ k ≤ 16 ^ 8 := Nat.pow_le_pow_right (by decide) h
  simpa using this
theorem mxl_le {h : Nat → Nat} {g B : Nat} (hb : ∀ f, f < g → h f ≤ B) : mxl h g ≤ B := by
  induction g with
  | zero => exact Nat.zero_le _
  | succ g ih =>
    rw [mxl]
    have h1 := hb g (by omega)
    have h2 := ih (fun f hf => hb f (by omega))
    split <;> assumption
theorem vrec_le {g lv gl s0 : Nat} {fc nx vt : Nat → Nat → Nat} (hb : FBd g s0 lv fc nx) (hg : g ≤ 8) {m s : Nat} (h : okr lv s0 m s) (hv : ∀ f, f < g → m.testBit f = false → vt (m ||| 2 ^ f) (nx f s) ≤ 16 ^ (gl - cnt8 ((m ||| 2 ^ f) &&& lv))) : vrec g lv gl fc nx vt m s ≤ 16 ^ (gl - cnt8 (m &&& lv)) := by
  unfold vrec
  split
  · exact Nat.pow_pos (by decide)
  · refine mxl_le fun f hf => ?_
    unfold hnx
    split
    · exact Nat.zero_le _
    · rename_i h1 h2
      have h2 : m.testBit f = false := by simpa using h2
      have h3 := hv f hf h2
      rw [cnt8_or (by omega) h2] at h3
      obtain ⟨a1, -, -, a4⟩ := hb f s hf h.1
      cases hl : lv.testBit f with
      | false =>
        rw [hl] at h3
        rw [a4 hl, Nat.one_mul]
        exact h3
      | true =>
        rw [hl] at h3
        simp only [b2n, if_true] at h3
        have e : gl - cnt8 (m &&& lv) = (gl - (cnt8 (m &&& lv) + 1)) + 1 := by omega
        rw [e, Nat.pow_succ, Nat.mul_comm]
        exact Nat.mul_le_mul h3 a1
def vn (val : Nat → Int64) (m s : Nat) : Nat := (val (10 * m + s)).toInt.toNat
theorem vn_of {val : Nat → Int64} {m s y : Nat} (h : val (10 * m + s) = lN y) (hy : y < 2 ^ 62) : vn val m s = y := by
  unfold vn
  rw [h, pk_lT (by omega)]
  rfl
theorem vn_keep {val : Nat → Int64} {m s m2 s2 : Nat} {x : Int64} (hs : s ≤ 9) (hs2 : s2 ≤ 9) (h : ¬ (m2 = m ∧ s2 = s)) : vp_updL val (10 * m + s) x (10 * m2 + s2) = val (10 * m2 + s2) := pk_uLn (by omega)
theorem sub0 {a b : Nat} (ha : a < 2 ^ 30) (hb : b < 2 ^ 30) : (if (0 : Int32) < nI a - nI b then nI a - nI b else 0) = nI (a - b) := by
  by_cases h : b ≤ a
  · rw [pk_sub h]
    by_cases h2 : a - b = 0
    · rw [h2]; rfl
    · exact if_pos (nI_lt (a := 0) (by omega) (by omega))
  · have h1 := pk_sneg hb (show a < b by omega)
    rw [if_neg (fun q => absurd q (by simpa using Int32.le_of_lt h1)), show a - b = 0 by omega]
    rfl
theorem lcmp0 {a b : Nat} (ha : a < 2 ^ 62) (hb : b < 2 ^ 62) : lg_cmp (lN a) (lN b) = 0 ↔ a = b := by
  unfold lg_cmp
  by_cases h : a = b
  · subst h; simp
  · have h1 : ¬ lN a = lN b := fun q => h ((pk_lEQ (by omega) (by omega)).mp q)
    simp only [h1, if_false, h, iff_false]
    split <;> decide
theorem mxl_congr {h k : Nat → Nat} {g : Nat} (e : ∀ f, f < g → h f = k f) : mxl h g = mxl k g := by
  induction g with
  | zero => rfl
  | succ g ih => rw [mxl, mxl, ih (fun f hf => e f (by omega)), e g (by omega)]
set_option maxRecDepth 100000 in
theorem ev_X5_mostBehind (len mk : Int32) (abv : Int64) (val : Nat → Int64) (fac stb rw_ : Nat → Int32) (g lv s0 gl : Nat) (hg : g ≤ 8) (hl : lv < 256) (hs0 : s0 ≤ 9) (hgl : gl ≤ 8) (fc nx : Nat → Nat → Nat) (hT : FTb g s0 fc nx fac stb) (hB : FBd g s0 lv fc nx) (vt : Nat → Nat → Nat) (m s : Nat) (hm : m < 256) (hs : s ≤ s0) (hv : ∀ f, f < g → m.testBit f = false → val (10 * (m ||| 2 ^ f) + nx f s) = lN (vt (m ||| 2 ^ f) (nx f s)) ∧ vt (m ||| 2 ^ f) (nx f s) ≤ 2 ^ 32) : Ev MX5_mostBehind [.ref 0, .int (nI m), .int (nI s)] [zO 4 [.ref 1, .ref 2, .ref 3, .ref 4, .int (nI g), .int (nI lv), .int (nI s0), .int (nI gl), .int len, .long abv, .int mk], zL 2560 val, zI 80 fac, zI 80 stb, zI 8 rw_] (Rj [zO 4 [.ref 1, .ref 2, .ref 3, .ref 4, .int (nI g), .int (nI lv), .int (nI s0), .int (nI gl), .int len, .long abv, .int mk], zL 2560 val, zI 80 fac, zI 80 stb, zI 8 rw_] (lN (mxl (hnx fc nx vt m s) g))) := by
  refine ev_of bX5_mostBehind [some (.ref 0), some (.int (nI m)), some (.int (nI s)), none, none, none] (Nat.le_of_ble_eq_true rfl) rfl ?_
  refine go_lconst 0 dX5_mostBehind_0 (by decide) ?_
  refine go_lstore_n dX5_mostBehind_1 (by decide) ?_
  refine go_iconst (0) dX5_mostBehind_2 (by decide) ?_
  refine go_istore dX5_mostBehind_3 (by decide) ?_
  suffices loop : ∀ (d i : Nat), i + d = g → Go X0 MX5_mostBehind (Rj [zO 4 [.ref 1, .ref 2, .ref 3, .ref 4, .int (nI g), .int (nI lv), .int (nI s0), .int (nI gl), .int len, .long abv, .int mk], zL 2560 val, zI 80 fac, zI 80 stb, zI 8 rw_] (lN (mxl (hnx fc nx vt m s) g))) 5 0 0 5 [some (.ref 0), some (.int (nI m)), some (.int (nI s)), some (.long (lN (mxl (hnx fc nx vt m s) i))), none, some (.int (nI i))] [] [zO 4 [.ref 1, .ref 2, .ref 3, .ref 4, .int (nI g), .int (nI lv), .int (nI s0), .int (nI gl), .int len, .long abv, .int mk], zL 2560 val, zI 80 fac, zI 80 stb, zI 8 rw_] from loop g 0 (by omega)
  have hbd : ∀ f, f < g → hnx fc nx vt m s f ≤ 16 * 2 ^ 32 := fun f hf => by
    unfold hnx
    split
    · exact Nat.zero_le _
    · rename_i q
      exact Nat.mul_le_mul (hB f s hf hs).1 (hv f hf (by simpa using q)).2
  intro d
  induction d with
  | zero =>
    intro i hi
    obtain rfl : i = g := by omega
    refine go_iload dX5_mostBehind_5 rfl ?_
    refine go_aload_n dX5_mostBehind_7 rfl ?_
    refine go_getf fX5_41 dX5_mostBehind_8 rfl rfl ?_
    refine go_icmp_ge 42 dX5_mostBehind_11 (by decide) (fun _ => ?_) (fun c_11 => absurd (Int32.le_refl _) c_11)
    refine go_lload_n dX5_mostBehind_42 rfl ?_
    refine go_lreturn dX5_mostBehind_43 rfl (Nat.le_of_ble_eq_true rfl) (Nat.le_of_ble_eq_true rfl) ?_
    exact ⟨rfl, rfl⟩
  | succ d ih =>
    intro i hi
    have hm1 : mxl (hnx fc nx vt m s) i ≤ 16 * 2 ^ 32 := mxl_le fun f hf => hbd f (by omega)
    have ⟨hT1, hT2⟩ := hT i s (by omega) hs
    have ⟨hB1, hB2, _, _⟩ := hB i s (by omega) hs
    refine go_iload dX5_mostBehind_5 rfl ?_
    refine go_aload_n dX5_mostBehind_7 rfl ?_
    refine go_getf fX5_41 dX5_mostBehind_8 rfl rfl ?_
    refine go_icmp_ge 42 dX5_mostBehind_11 (by decide) (fun c_11 => absurd c_11 (nI_ge (by omega) (by omega))) (fun _ => ?_)
    refine go_iload_n dX5_mostBehind_14 rfl ?_
    refine go_iload dX5_mostBehind_15 rfl ?_
    refine go_ishr dX5_mostBehind_17 ?_
    refine go_iconst (1) dX5_mostBehind_18 (by decide) ?_
    refine go_iand dX5_mostBehind_19 ?_
    rw [shr_bit (show m < 2 ^ 31 by omega) (show i < 16 by omega)]
    skip
    refine go_if_ne 36 dX5_mostBehind_20 (by decide) (fun c_20 => ?_) (fun c_20 => ?_)
    · refine go_iincN (1) dX5_mostBehind_36 rfl (by decide) (by decide) ?_
      refine go_goto 5 dX5_mostBehind_39 (by decide) ?_
      rw [nI_1]
      have e := ih (i + 1) (by omega)
      rw [mxl] at e
      first
        | (rw [show hnx fc nx vt m s i = fc i s * vt (m ||| 2 ^ i) (nx i s) from if_neg (by rw [bit_t c_20]; decide)] at e; exact e)
        | (rw [show hnx fc nx vt m s i = 0 from if_pos (bit_f c_20), if_neg (Nat.not_lt_zero _)] at e; exact e)
    · obtain ⟨hv1, hv2⟩ := hv i (by omega) (bit_t c_20)
      refine go_lload_n dX5_mostBehind_23 rfl ?_
      refine go_aload_n dX5_mostBehind_24 rfl ?_
      refine go_iload_n dX5_mostBehind_25 rfl ?_
      refine go_iload_n dX5_mostBehind_26 rfl ?_
      refine go_iload dX5_mostBehind_27 rfl ?_
      refine go_callVj (z := MX5_valueIfNext) [0, 1, 2, 3, 4] dX5_mostBehind_29 lX5_115 sX5_valueIfNext (ev_X5_valueIfNext _ _ _ _ _ _ _ _ _ _ _ m s i (fc i s) (nx i s) (vt (m ||| 2 ^ i) (nx i s)) hm (by omega) (by omega) (by omega) hT1 hT2 hv1 (by omega)) rfl rfl rfl rfl rfl ⟨_, _, rfl⟩ rfl rfl ?_
      refine go_lmax dX5_mostBehind_32 lX5_119 (Nat.le_of_ble_eq_true rfl) (Nat.le_of_ble_eq_true rfl) (Nat.le_of_ble_eq_true rfl) (Nat.le_of_ble_eq_true rfl) ?_
      have hpr : fc i s * vt (m ||| 2 ^ i) (nx i s) ≤ 16 * 2 ^ 32 := Nat.mul_le_mul hB1 hv2
      rw [lmaxN (by omega) (by omega)]
      refine go_lstore_n dX5_mostBehind_35 (by decide) ?_
      refine go_iincN (1) dX5_mostBehind_36 rfl (by decide) (by decide) ?_
      refine go_goto 5 dX5_mostBehind_39 (by decide) ?_
      rw [nI_1]
      have e := ih (i + 1) (by omega)
      rw [mxl] at e
      first
        | (rw [show hnx fc nx vt m s i = fc i s * vt (m ||| 2 ^ i) (nx i s) from if_neg (by rw [bit_t c_20]; decide)] at e; exact e)
        | (rw [show hnx fc nx vt m s i = 0 from if_pos (bit_f c_20), if_neg (Nat.not_lt_zero _)] at e; exact e)
set_option maxRecDepth 100000 in
theorem ev_X5_leastNext (len mk : Int32) (abv : Int64) (val : Nat → Int64) (fac stb rw_ : Nat → Int32) (g lv s0 gl : Nat) (hg : g ≤ 8) (hl : lv < 256) (hs0 : s0 ≤ 9) (hgl : gl ≤ 8) (fc nx : Nat → Nat → Nat) (hT : FTb g s0 fc nx fac stb) (hB : FBd g s0 lv fc nx) (vt : Nat → Nat → Nat) (m s : Nat) (hm : m < 256) (hs : s ≤ s0) (hv : ∀ f, f < g → m.testBit f = false → val (10 * (m ||| 2 ^ f) + nx f s) = lN (vt (m ||| 2 ^ f) (nx f s)) ∧ vt (m ||| 2 ^ f) (nx f s) ≤ 2 ^ 32) (hvm : val (10 * m + s) = lN (vt m s)) (hvb : vt m s ≤ 2 ^ 32) : Ev MX5_leastNext [.ref 0, .int (nI m), .int (nI s)] [zO 4 [.ref 1, .ref 2, .ref 3, .ref 4, .int (nI g), .int (nI lv), .int (nI s0), .int (nI gl), .int len, .long abv, .int mk], zL 2560 val, zI 80 fac, zI 80 stb, zI 8 rw_] (Ri [zO 4 [.ref 1, .ref 2, .ref 3, .ref 4, .int (nI g), .int (nI lv), .int (nI s0), .int (nI gl), .int len, .long abv, .int mk], zL 2560 val, zI 80 fac, zI 80 stb, zI 8 rw_] (match lst (pnx fc nx vt m s) g 0 with | some f => nI f | none => -1)) := by
  refine ev_of bX5_leastNext [some (.ref 0), some (.int (nI m)), some (.int (nI s)), none, none, none] (Nat.le_of_ble_eq_true rfl) rfl ?_
  refine go_aload_n dX5_leastNext_0 rfl ?_
  refine go_getf fX5_11 dX5_leastNext_1 rfl rfl ?_
  refine go_iload_n dX5_leastNext_4 rfl ?_
  refine go_bipush (10) dX5_leastNext_5 (by decide) ?_
  refine go_imul dX5_leastNext_7 ?_
  refine go_iload_n dX5_leastNext_8 rfl ?_
  refine go_iadd dX5_leastNext_9 ?_
  rw [show nI m * 10 + nI s = nI (10 * m + s) by rw [show (10 : Int32) = nI 10 from rfl, pk_mul, nI_add]; exact nI_e (by omega)]
  refine go_lald dX5_leastNext_10 rfl (vp_in_nI (by omega) (by decide)) ?_
  rw [nI_clamp (show 10 * m + s < 2 ^ 31 by omega), hvm]
  refine go_lstore_n dX5_leastNext_11 (by decide) ?_
  refine go_iconst (0) dX5_leastNext_12 (by decide) ?_
  refine go_istore dX5_leastNext_13 (by decide) ?_
  suffices loop : ∀ (d i : Nat), i + d = g → lst (pnx fc nx vt m s) g 0 = lst (pnx fc nx vt m s) d i → Go X0 MX5_leastNext (Ri [zO 4 [.ref 1, .ref 2, .ref 3, .ref 4, .int (nI g), .int (nI lv), .int (nI s0), .int (nI gl), .int len, .long abv, .int mk], zL 2560 val, zI 80 fac, zI 80 stb, zI 8 rw_] (match lst (pnx fc nx vt m s) g 0 with | some f => nI f | none => -1)) 5 0 0 15 [some (.ref 0), some (.int (nI m)), some (.int (nI s)), some (.long (lN (vt m s))), none, some (.int (nI i))] [] [zO 4 [.ref 1, .ref 2, .ref 3, .ref 4, .int (nI g), .int (nI lv), .int (nI s0), .int (nI gl), .int len, .long abv, .int mk], zL 2560 val, zI 80 fac, zI 80 stb, zI 8 rw_] from loop g 0 (by omega) rfl
  intro d
  induction d with
  | zero =>
    intro i hi he
    have he : lst (pnx fc nx vt m s) g 0 = none := he
    refine go_iload dX5_leastNext_15 rfl ?_
    refine go_aload_n dX5_leastNext_17 rfl ?_
    refine go_getf fX5_41 dX5_leastNext_18 rfl rfl ?_
    refine go_icmp_ge 55 dX5_leastNext_21 (by decide) (fun _ => ?_) (fun c_21 => absurd (nI_le (by omega) (by omega)) c_21)
    refine go_iconst (-1) dX5_leastNext_55 (by decide) ?_
    refine go_ireturn dX5_leastNext_56 rfl rfl (Nat.le_of_ble_eq_true rfl) (Nat.le_of_ble_eq_true rfl) ?_
    exact ⟨by rw [he], rfl⟩
  | succ d ih =>
    intro i hi he
    rw [lst] at he
    have ⟨hT1, hT2⟩ := hT i s (by omega) hs
    have ⟨hB1, hB2, _, _⟩ := hB i s (by omega) hs
    refine go_iload dX5_leastNext_15 rfl ?_
    refine go_aload_n dX5_leastNext_17 rfl ?_
    refine go_getf fX5_41 dX5_leastNext_18 rfl rfl ?_
    refine go_icmp_ge 55 dX5_leastNext_21 (by decide) (fun c_21 => absurd c_21 (nI_ge (by omega) (by omega))) (fun _ => ?_)
    refine go_iload_n dX5_leastNext_24 rfl ?_
    refine go_iload dX5_leastNext_25 rfl ?_
    refine go_ishr dX5_leastNext_27 ?_
    refine go_iconst (1) dX5_leastNext_28 (by decide) ?_
    refine go_iand dX5_leastNext_29 ?_
    rw [shr_bit (show m < 2 ^ 31 by omega) (show i < 16 by omega)]
    skip
    refine go_if_ne 49 dX5_leastNext_30 (by decide) (fun c_30 => ?_) (fun c_30 => ?_)
    · refine go_iincN (1) dX5_leastNext_49 rfl (by decide) (by decide) ?_
      refine go_goto 15 dX5_leastNext_52 (by decide) ?_
      rw [nI_1]
      refine ih (i + 1) (by omega) ?_
      rw [he, if_neg]
      first
        | (intro q; simp [pnx, bit_f c_30] at q; done)
        | (intro q
           simp only [pnx, Bool.and_eq_true, decide_eq_true_eq] at q
           exact c_43 ((lcmp0 (by omega) (by omega)).mpr q.2))
    · obtain ⟨hv1, hv2⟩ := hv i (by omega) (bit_t c_30)
      have hpr : fc i s * vt (m ||| 2 ^ i) (nx i s) ≤ 16 * 2 ^ 32 := Nat.mul_le_mul hB1 hv2
      refine go_aload_n dX5_leastNext_33 rfl ?_
      refine go_iload_n dX5_leastNext_34 rfl ?_
      refine go_iload_n dX5_leastNext_35 rfl ?_
      refine go_iload dX5_leastNext_36 rfl ?_
      refine go_callVj (z := MX5_valueIfNext) [0, 1, 2, 3, 4] dX5_leastNext_38 lX5_115 sX5_valueIfNext (ev_X5_valueIfNext _ _ _ _ _ _ _ _ _ _ _ m s i (fc i s) (nx i s) (vt (m ||| 2 ^ i) (nx i s)) hm (by omega) (by omega) (by omega) hT1 hT2 hv1 (by omega)) rfl rfl rfl rfl rfl ⟨_, _, rfl⟩ rfl rfl ?_
      refine go_lload_n dX5_leastNext_41 rfl ?_
      refine go_lcmp dX5_leastNext_42 ?_
      refine go_if_ne 49 dX5_leastNext_43 (by decide) (fun c_43 => ?_) (fun c_43 => ?_)
      · refine go_iincN (1) dX5_leastNext_49 rfl (by decide) (by decide) ?_
        refine go_goto 15 dX5_leastNext_52 (by decide) ?_
        rw [nI_1]
        refine ih (i + 1) (by omega) ?_
        rw [he, if_neg]
        first
          | (intro q; simp [pnx, bit_f c_30] at q; done)
          | (intro q
             simp only [pnx, Bool.and_eq_true, decide_eq_true_eq] at q
             exact c_43 ((lcmp0 (by omega) (by omega)).mpr q.2))
      · refine go_iload dX5_leastNext_46 rfl ?_
        refine go_ireturn dX5_leastNext_48 rfl rfl (Nat.le_of_ble_eq_true rfl) (Nat.le_of_ble_eq_true rfl) ?_
        have hp : pnx fc nx vt m s i = true := by
          simp only [pnx, bit_t c_30, Bool.not_false, Bool.true_and, decide_eq_true_eq]
          exact (lcmp0 (by omega) (by omega)).mp c_43
        rw [if_pos hp] at he
        exact ⟨by rw [he], rfl⟩
set_option maxRecDepth 100000 in
theorem ev_X5_fillValues (len mk : Int32) (abv : Int64) (val : Nat → Int64) (fac stb rw_ : Nat → Int32) (g lv s0 gl : Nat) (hg : g ≤ 8) (hl : lv < 256) (hs0 : s0 ≤ 9) (hgl : gl ≤ 8) (fc nx : Nat → Nat → Nat) (hT : FTb g s0 fc nx fac stb) (hB : FBd g s0 lv fc nx) : Ev MX5_fillValues [.ref 0] [zO 4 [.ref 1, .ref 2, .ref 3, .ref 4, .int (nI g), .int (nI lv), .int (nI s0), .int (nI gl), .int len, .long abv, .int mk], zL 2560 val, zI 80 fac, zI 80 stb, zI 8 rw_] (fun v w => v = none ∧ ∃ val2 : Nat → Int64, w = [zO 4 [.ref 1, .ref 2, .ref 3, .ref 4, .int (nI g), .int (nI lv), .int (nI s0), .int (nI gl), .int len, .long abv, .int mk], zL 2560 val2, zI 80 fac, zI 80 stb, zI 8 rw_] ∧ ∀ m, m < 2 ^ g → IsV g lv gl s0 fc nx (vn val2) m ∧ VAt lv s0 val2 (vn val2) m) := by
  refine ev_of bX5_fillValues [some (.ref 0), none, none, none] (Nat.le_of_ble_eq_true rfl) rfl ?_
  refine go_iconst (1) dX5_fillValues_0 (by decide) ?_
  refine go_aload_n dX5_fillValues_1 rfl ?_
  refine go_getf fX5_41 dX5_fillValues_2 rfl rfl ?_
  refine go_ishl dX5_fillValues_5 ?_
  rw [sh1 g (by omega)]
  refine go_iconst (1) dX5_fillValues_6 (by decide) ?_
  refine go_isub dX5_fillValues_7 ?_
  rw [show nI (2 ^ g) - 1 = nI (2 ^ g - 1) from pk_sub (b := 1) (Nat.pow_pos (by decide))]
  refine go_istore_n dX5_fillValues_8 (by decide) ?_
  have h2g : 2 ^ g ≤ 2 ^ 8 := Nat.pow_le_pow_right (by decide) hg
  have h2p : 0 < 2 ^ g := Nat.pow_pos (by decide)
  suffices loop : ∀ (k : Nat) (val : Nat → Int64) (x2 x3 : Option Value), k < 2 ^ g → (∀ m, k < m → m < 2 ^ g → IsV g lv gl s0 fc nx (vn val) m ∧ VAt lv s0 val (vn val) m) → Go X0 MX5_fillValues (fun v w => v = none ∧ ∃ val2 : Nat → Int64, w = [zO 4 [.ref 1, .ref 2, .ref 3, .ref 4, .int (nI g), .int (nI lv), .int (nI s0), .int (nI gl), .int len, .long abv, .int mk], zL 2560 val2, zI 80 fac, zI 80 stb, zI 8 rw_] ∧ ∀ m, m < 2 ^ g → IsV g lv gl s0 fc nx (vn val2) m ∧ VAt lv s0 val2 (vn val2) m) 5 0 0 9 [some (.ref 0), some (.int (nI k)), x2, x3] [] [zO 4 [.ref 1, .ref 2, .ref 3, .ref 4, .int (nI g), .int (nI lv), .int (nI s0), .int (nI gl), .int len, .long abv, .int mk], zL 2560 val, zI 80 fac, zI 80 stb, zI 8 rw_] from loop (2 ^ g - 1) val _ _ (by omega) (fun m h1 h2 => absurd h1 (by omega))
  have last : ∀ (val : Nat → Int64) (x2 x3 : Option Value), (∀ m, m < 2 ^ g → IsV g lv gl s0 fc nx (vn val) m ∧ VAt lv s0 val (vn val) m) → Go X0 MX5_fillValues (fun v w => v = none ∧ ∃ val2 : Nat → Int64, w = [zO 4 [.ref 1, .ref 2, .ref 3, .ref 4, .int (nI g), .int (nI lv), .int (nI s0), .int (nI gl), .int len, .long abv, .int mk], zL 2560 val2, zI 80 fac, zI 80 stb, zI 8 rw_] ∧ ∀ m, m < 2 ^ g → IsV g lv gl s0 fc nx (vn val2) m ∧ VAt lv s0 val2 (vn val2) m) 5 0 0 9 [some (.ref 0), some (.int (-1)), x2, x3] [] [zO 4 [.ref 1, .ref 2, .ref 3, .ref 4, .int (nI g), .int (nI lv), .int (nI s0), .int (nI gl), .int len, .long abv, .int mk], zL 2560 val, zI 80 fac, zI 80 stb, zI 8 rw_] := by
    intro val x2 x3 hd
    refine go_iload_n dX5_fillValues_9 rfl ?_
    refine go_if_lt 79 dX5_fillValues_10 (by decide) (fun _ => ?_) (fun c_10 => absurd (by decide) c_10)
    refine go_return dX5_fillValues_79 rfl (Nat.le_of_ble_eq_true rfl) (Nat.le_of_ble_eq_true rfl) ?_
    exact ⟨rfl, val, rfl, hd⟩
  have body : ∀ (k : Nat) (val : Nat → Int64) (x2 x3 : Option Value), k < 2 ^ g → (∀ m, k < m → m < 2 ^ g → IsV g lv gl s0 fc nx (vn val) m ∧ VAt lv s0 val (vn val) m) → (∀ (val : Nat → Int64) (x2 x3 : Option Value), (∀ m, k ≤ m → m < 2 ^ g → IsV g lv gl s0 fc nx (vn val) m ∧ VAt lv s0 val (vn val) m) → Go X0 MX5_fillValues (fun v w => v = none ∧ ∃ val2 : Nat → Int64, w = [zO 4 [.ref 1, .ref 2, .ref 3, .ref 4, .int (nI g), .int (nI lv), .int (nI s0), .int (nI gl), .int len, .long abv, .int mk], zL 2560 val2, zI 80 fac, zI 80 stb, zI 8 rw_] ∧ ∀ m, m < 2 ^ g → IsV g lv gl s0 fc nx (vn val2) m ∧ VAt lv s0 val2 (vn val2) m) 5 0 0 9 [some (.ref 0), some (.int (nI k + -1)), x2, x3] [] [zO 4 [.ref 1, .ref 2, .ref 3, .ref 4, .int (nI g), .int (nI lv), .int (nI s0), .int (nI gl), .int len, .long abv, .int mk], zL 2560 val, zI 80 fac, zI 80 stb, zI 8 rw_]) → Go X0 MX5_fillValues (fun v w => v = none ∧ ∃ val2 : Nat → Int64, w = [zO 4 [.ref 1, .ref 2, .ref 3, .ref 4, .int (nI g), .int (nI lv), .int (nI s0), .int (nI gl), .int len, .long abv, .int mk], zL 2560 val2, zI 80 fac, zI 80 stb, zI 8 rw_] ∧ ∀ m, m < 2 ^ g → IsV g lv gl s0 fc nx (vn val2) m ∧ VAt lv s0 val2 (vn val2) m) 5 0 0 9 [some (.ref 0), some (.int (nI k)), x2, x3] [] [zO 4 [.ref 1, .ref 2, .ref 3, .ref 4, .int (nI g), .int (nI lv), .int (nI s0), .int (nI gl), .int len, .long abv, .int mk], zL 2560 val, zI 80 fac, zI 80 stb, zI 8 rw_] := by
    intro k val x2 x3 hk hd next
    have hcl := cnt8_le (k &&& lv)
    refine go_iload_n dX5_fillValues_9 rfl ?_
    refine go_if_lt 79 dX5_fillValues_10 (by decide) (fun c_10 => absurd c_10 (nI_pos (by omega))) (fun _ => ?_)
    refine go_aload_n dX5_fillValues_13 rfl ?_
    refine go_iload_n dX5_fillValues_14 rfl ?_
    refine go_callVi (z := MX5_winsOf) [0, 1, 2, 3, 4] dX5_fillValues_15 lX5_108 sX5_winsOf (ev_X5_winsOf _ _ _ _ _ _ _ _ _ _ lv k hl (by omega)) rfl rfl rfl rfl rfl ⟨_, _, rfl⟩ rfl rfl ?_
    refine go_istore_n dX5_fillValues_18 (by decide) ?_
    refine go_iconst (0) dX5_fillValues_19 (by decide) ?_
    refine go_aload_n dX5_fillValues_20 rfl ?_
    refine go_getf fX5_52 dX5_fillValues_21 rfl rfl ?_
    refine go_iload_n dX5_fillValues_24 rfl ?_
    refine go_isub dX5_fillValues_25 ?_
    refine go_max dX5_fillValues_26 lX5_49 (Nat.le_of_ble_eq_true rfl) (Nat.le_of_ble_eq_true rfl) (Nat.le_of_ble_eq_true rfl) (Nat.le_of_ble_eq_true rfl) ?_
    rw [sub0 (show s0 < 2 ^ 30 by omega) (show cnt8 (k &&& lv) < 2 ^ 30 by omega)]
    refine go_istore_n dX5_fillValues_29 (by decide) ?_
    suffices inner : ∀ (d i : Nat) (val : Nat → Int64), i + d = s0 + 1 → (∀ m, k < m → m < 2 ^ g → IsV g lv gl s0 fc nx (vn val) m ∧ VAt lv s0 val (vn val) m) → (∀ s, s < i → okr lv s0 k s → val (10 * k + s) = lN (vn val k s) ∧ vn val k s = vrec g lv gl fc nx (vn val) k s ∧ vn val k s ≤ 16 ^ (gl - cnt8 (k &&& lv))) → s0 ≤ i + cnt8 (k &&& lv) → Go X0 MX5_fillValues (fun v w => v = none ∧ ∃ val2 : Nat → Int64, w = [zO 4 [.ref 1, .ref 2, .ref 3, .ref 4, .int (nI g), .int (nI lv), .int (nI s0), .int (nI gl), .int len, .long abv, .int mk], zL 2560 val2, zI 80 fac, zI 80 stb, zI 8 rw_] ∧ ∀ m, m < 2 ^ g → IsV g lv gl s0 fc nx (vn val2) m ∧ VAt lv s0 val2 (vn val2) m) 5 0 0 30 [some (.ref 0), some (.int (nI k)), some (.int (nI (cnt8 (k &&& lv)))), some (.int (nI i))] [] [zO 4 [.ref 1, .ref 2, .ref 3, .ref 4, .int (nI g), .int (nI lv), .int (nI s0), .int (nI gl), .int len, .long abv, .int mk], zL 2560 val, zI 80 fac, zI 80 stb, zI 8 rw_] from inner (s0 + 1 - (s0 - cnt8 (k &&& lv))) (s0 - cnt8 (k &&& lv)) val (by omega) hd (fun s h1 h2 => absurd h2.2 (by omega)) (by omega)
    intro d
    induction d with
    | zero =>
      intro i val hi hd hr hlo
      refine go_iload_n dX5_fillValues_30 rfl ?_
      refine go_aload_n dX5_fillValues_31 rfl ?_
      refine go_getf fX5_52 dX5_fillValues_32 rfl rfl ?_
      refine go_icmp_gt 73 dX5_fillValues_35 (by decide) (fun _ => ?_) (fun c_35 => absurd (nI_lt (by omega) (by omega)) c_35)
      refine go_iincN (-1) dX5_fillValues_73 rfl (by decide) (by decide) ?_
      refine go_goto 9 dX5_fillValues_76 (by decide) ?_
      skip
      exact next val _ _ (fun m h1 h2 => by
        by_cases he : m = k
        · subst he
          exact ⟨fun s hs => (hr s (by have := hs.1; omega) hs).2, fun s hs => (hr s (by have := hs.1; omega) hs).1⟩
        · exact hd m (by omega) h2)
    | succ d ih =>
      intro i val hi hd hr hlo
      have hok : okr lv s0 k i := ⟨by omega, by omega⟩
      have hnext : ∀ f, f < g → k.testBit f = false → val (10 * (k ||| 2 ^ f) + nx f i) = lN (vn val (k ||| 2 ^ f) (nx f i)) ∧ vn val (k ||| 2 ^ f) (nx f i) ≤ 16 ^ (gl - cnt8 ((k ||| 2 ^ f) &&& lv)) := fun f hf hb => by
        have hh := hd (k ||| 2 ^ f) (or_gt hb) (or_lt hk hf)
        have ho := okr_nx hB hf hg hb hok
        exact ⟨hh.2 _ ho, (hh.1 _ ho).2⟩
      have hle : vrec g lv gl fc nx (vn val) k i ≤ 16 ^ (gl - cnt8 (k &&& lv)) := vrec_le hB hg hok (fun f hf hb => (hnext f hf hb).2)
      have hle2 : vrec g lv gl fc nx (vn val) k i ≤ 2 ^ 32 := Nat.le_trans hle (pow16 (by omega))
      refine go_iload_n dX5_fillValues_30 rfl ?_
      refine go_aload_n dX5_fillValues_31 rfl ?_
      refine go_getf fX5_52 dX5_fillValues_32 rfl rfl ?_
      refine go_icmp_gt 73 dX5_fillValues_35 (by decide) (fun c_35 => absurd c_35 (nI_nlt (by omega) (by omega))) (fun _ => ?_)
      refine go_aload_n dX5_fillValues_38 rfl ?_
      refine go_getf fX5_11 dX5_fillValues_39 rfl rfl ?_
      refine go_iload_n dX5_fillValues_42 rfl ?_
      refine go_bipush (10) dX5_fillValues_43 (by decide) ?_
      refine go_imul dX5_fillValues_45 ?_
      refine go_iload_n dX5_fillValues_46 rfl ?_
      refine go_iadd dX5_fillValues_47 ?_
      rw [show nI k * 10 + nI i = nI (10 * k + i) by rw [show (10 : Int32) = nI 10 from rfl, pk_mul, nI_add]; exact nI_e (by omega)]
      refine go_iload_n dX5_fillValues_48 rfl ?_
      refine go_aload_n dX5_fillValues_49 rfl ?_
      refine go_getf fX5_58 dX5_fillValues_50 rfl rfl ?_
      refine go_cut2L (J := 66) (fun v => v = lN (vrec g lv gl fc nx (vn val) k i)) (fun v_66 hv_66 => ?_) (fun kk_66 => ?_)
      case refine_2 =>
        refine go_icmp_lt 60 dX5_fillValues_53 (by decide) (fun c_53 => ?_) (fun c_53 => ?_)
        · refine go_aload_n dX5_fillValues_60 rfl ?_
          refine go_iload_n dX5_fillValues_61 rfl ?_
          refine go_iload_n dX5_fillValues_62 rfl ?_
          refine go_callVj (z := MX5_mostBehind) [0, 1, 2, 3, 4] dX5_fillValues_63 lX5_111 sX5_mostBehind (ev_X5_mostBehind _ _ _ _ _ _ _ g lv s0 gl hg hl hs0 hgl fc nx hT hB (vn val) k i (by omega) (by omega) (fun f hf hb => ⟨(hnext f hf hb).1, Nat.le_trans (hnext f hf hb).2 (pow16 (by omega))⟩)) rfl rfl rfl rfl rfl ⟨_, _, rfl⟩ rfl rfl ?_
          exact kk_66 _ (by first | (exact congrArg lN (if_neg (fun q => absurd c_53 (nI_nlt q (by omega)))).symm) | (exact congrArg lN (if_pos (Nat.le_of_not_lt fun q => c_53 (nI_lt q (by omega)))).symm))
        · refine go_lconst 1 dX5_fillValues_56 (by decide) ?_
          refine go_goto 66 dX5_fillValues_57 (by decide) ?_
          exact kk_66 _ (by first | (exact congrArg lN (if_neg (fun q => absurd c_53 (nI_nlt q (by omega)))).symm) | (exact congrArg lN (if_pos (Nat.le_of_not_lt fun q => c_53 (nI_lt q (by omega)))).symm))
      subst hv_66
      refine go_last dX5_fillValues_66 rfl (vp_in_nI (by omega) (by decide)) ?_
      refine go_iincN (1) dX5_fillValues_67 rfl (by decide) (by decide) ?_
      refine go_goto 30 dX5_fillValues_70 (by decide) ?_
      rw [nI_1]
      simp only [nI_clamp (show 10 * k + i < 2 ^ 31 by omega)]
      have hkeep : ∀ m s, s ≤ 9 → ¬ (m = k ∧ s = i) → vn (vp_updL val (10 * k + i) (lN (vrec g lv gl fc nx (vn val) k i))) m s = vn val m s := fun m s h1 h2 => by
        unfold vn
        rw [vn_keep (by omega) h1 h2]
      have hvr : ∀ m s, k ≤ m → m < 2 ^ g → okr lv s0 m s → vrec g lv gl fc nx (vn (vp_updL val (10 * k + i) (lN (vrec g lv gl fc nx (vn val) k i)))) m s = vrec g lv gl fc nx (vn val) m s := fun m s h1 h2 h3 => by
        generalize lN (vrec g lv gl fc nx (vn val) k i) = y at hkeep ⊢
        unfold vrec
        congr 1
        refine mxl_congr fun f hf => ?_
        unfold hnx
        by_cases hb : m.testBit f = true
        · rw [if_pos hb, if_pos hb]
        · have hb : m.testBit f = false := by simpa using hb
          rw [hb]
          simp only [Bool.false_eq_true, if_false]
          have := or_gt hb
          have h4 := (hB f s hf h3.1).2.1
          rw [hkeep _ _ (by omega) (by omega)]
      refine ih (i + 1) _ (by omega) (fun m h1 h2 => ?_) (fun s h1 h2 => ?_) (by omega)
      · refine ⟨fun s hs => ?_, fun s hs => ?_⟩
        · have h9 := hs.1
          rw [hkeep m s (by omega) (by omega), hvr m s (by omega) h2 hs]
          exact (hd m h1 h2).1 s hs
        · have h9 := hs.1
          rw [hkeep m s (by omega) (by omega), vn_keep (by omega) (by omega) (by omega)]
          exact (hd m h1 h2).2 s hs
      · have h9 := h2.1
        by_cases he : s = i
        · subst he
          have e1 : vn (vp_updL val (10 * k + s) (lN (vrec g lv gl fc nx (vn val) k s))) k s = vrec g lv gl fc nx (vn val) k s := vn_of pk_uLs (by omega)
          rw [e1, hvr k s (by omega) hk h2]
          exact ⟨pk_uLs, rfl, hle⟩
        · rw [hkeep k s (by omega) (by omega), hvr k s (by omega) hk h2, vn_keep (by omega) (by omega) (by omega)]
          exact hr s (by omega) h2
  intro k
  induction k with
  | zero => exact fun val x2 x3 hk hd => body 0 val x2 x3 hk hd (fun val x2 x3 h => last val x2 x3 (fun m hm => h m (Nat.zero_le _) hm))
  | succ k ih => exact fun val x2 x3 hk hd => body (k + 1) val x2 x3 hk hd (fun val x2 x3 h => by
      rw [show nI (k + 1) + -1 = nI k from pk_m1 k]
      exact ih val x2 x3 (by omega) (fun m h1 h2 => h m (by omega) h2))
