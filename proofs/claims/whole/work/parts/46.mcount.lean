/-- the model's texts, felons, names, terms as the class has them -/
def GM (n : Nat) (B : TB2) (F : TX) : TG := (F.1, fltI n B.1, F.2)
def NM (m : Nat) (B : TB2) (A : TX) : TG := (A.1, nfl m (fun i => B.1 (48 + i)), A.2)
def T0M (n : Nat) (B : TB2) : TX := (n, B.1)
def T1M (m : Nat) (B : TB2) : TX := (m, fun i => B.1 (48 + i))
theorem GM_inv {n : Nat} {B : TB2} {F : TX} (h : FInv n B.1 F) : GInv (T0M n B) (GM n B F) := ⟨h.1, rfl, h.2⟩
theorem NM_inv {m : Nat} {B : TB2} {A : TX} (h : AInv m (fun i => B.1 (48 + i)) A) : NInv (T1M m B) (NM m B A) := ⟨h.1, rfl, h.2⟩
set_option maxRecDepth 100000 in
theorem ev_X12_count (U : TU) (lt : Int32) (B : TB2) (F A : TX) (se : AF) (R : TR) (O : TO) (V : TX) (al : AF) (dr : Int32) (n m s0 gl br : Nat) (ok : MOK B se n m s0 gl br) (x : Int32) : Ev MX12_count [.ref 0, .int x] (mwd U lt B F A se R O V al dr) (fun v w => ∃ (F2 A2 : TX) (R2 : TR), FInv n B.1 F2 ∧ AInv m (fun i => B.1 (48 + i)) A2 ∧ v = some (.int (if x < 0 ∨ 9 ≤ x then -2 else cntV (T0M n B) (T1M m B) (GM n B F2) (NM m B A2) (cC (GM n B F2) (NM m B A2) (s0, gl, br)) (SV V) lt x.toNatClampNeg)) ∧ w = (mwd U lt B F2 A2 se R2 O V al dr)) := by
  refine ev_of bX12_count [some (.ref 0), some (.int x)] (Nat.le_of_ble_eq_true rfl) rfl ?_
  refine go_aload_n dX12_count_0 rfl ?_
  refine go_callVs (z := MX12_find) dX12_count_1 lX12_165 sX12_find (ev_X12_find U lt B F A se R O V al dr n m s0 gl br ok) rfl rfl rfl ⟨_, _, rfl⟩ rfl rfl (fun v w1 h => by obtain ⟨-, F2, A2, R2, rfl, -⟩ := h; rfl) (fun v_1 w_1 h_1 => ?_)
  obtain ⟨rfl, F2, A2, R2, rfl, g1, g2, g3⟩ := h_1
  have hF := g1.le ok.hn
  have hA := g2.ok ok.hm
  have hA1 := hA.1
  refine go_iload_n dX12_count_4 rfl ?_
  rcases pk_ix x (n := 9) (by decide) with hx | hx | ⟨j, hj, rfl⟩
  · refine go_tblOut 105 dX12_count_5 (out_lt hx) (by decide) ?_
    refine go_bipush (-2) dX12_count_105 (by decide) ?_
    refine go_ireturn dX12_count_107 rfl rfl (Nat.le_of_ble_eq_true rfl) (Nat.le_of_ble_eq_true rfl) ?_
    exact ⟨F2, A2, R2, g1, g2, by rw [if_pos (Or.inl hx)], rfl⟩
  · refine go_tblOut 105 dX12_count_5 (out_ge (n := 8) (by decide) hx) (by decide) ?_
    refine go_bipush (-2) dX12_count_105 (by decide) ?_
    refine go_ireturn dX12_count_107 rfl rfl (Nat.le_of_ble_eq_true rfl) (Nat.le_of_ble_eq_true rfl) ?_
    exact ⟨F2, A2, R2, g1, g2, by rw [if_pos (show x < 0 ∨ 9 ≤ x from Or.inr hx)], rfl⟩
  · have hv : (if nI j < 0 ∨ 9 ≤ nI j then (-2 : Int32) else cntV (T0M n B) (T1M m B) (GM n B F2) (NM m B A2) (cC (GM n B F2) (NM m B A2) (s0, gl, br)) (SV V) lt (nI j).toNatClampNeg) = cntV (T0M n B) (T1M m B) (GM n B F2) (NM m B A2) (cC (GM n B F2) (NM m B A2) (s0, gl, br)) (SV V) lt j := by
      rw [if_neg, nI_clamp (by omega)]
      rintro (q | q)
      · exact nI_pos (by omega) q
      · exact nI_ge (a := j) (b := 9) hj (by decide) q
    match j, hj with
    | 0, _ =>
      refine go_tblIn 56 dX12_count_5 (by decide) (by decide) rfl (by decide) ?_
      refine go_aload_n dX12_count_56 rfl ?_
      refine go_getf fX12_112 dX12_count_57 rfl rfl ?_
      refine go_ireturn dX12_count_60 rfl rfl (Nat.le_of_ble_eq_true rfl) (Nat.le_of_ble_eq_true rfl) ?_
      exact ⟨F2, A2, R2, g1, g2, by rw [hv]; first | rfl | (rw [ok.e0, ok.e1, ok.e2]; rfl), rfl⟩
    | 1, _ =>
      refine go_tblIn 61 dX12_count_5 (by decide) (by decide) rfl (by decide) ?_
      refine go_aload_n dX12_count_61 rfl ?_
      refine go_getf fX12_118 dX12_count_62 rfl rfl ?_
      refine go_ireturn dX12_count_65 rfl rfl (Nat.le_of_ble_eq_true rfl) (Nat.le_of_ble_eq_true rfl) ?_
      exact ⟨F2, A2, R2, g1, g2, by rw [hv]; first | rfl | (rw [ok.e0, ok.e1, ok.e2]; rfl), rfl⟩
    | 2, _ =>
      refine go_tblIn 66 dX12_count_5 (by decide) (by decide) rfl (by decide) ?_
      refine go_aload_n dX12_count_66 rfl ?_
      refine go_getf fX12_25 dX12_count_67 rfl rfl ?_
      refine go_iload_n dX12_count_70 rfl ?_
      refine go_iconst (2) dX12_count_71 (by decide) ?_
      refine go_isub dX12_count_72 ?_
      rw [show nI 2 - 2 = nI 0 from by decide]
      refine go_iald dX12_count_73 rfl (vp_in_nI (by decide) (by decide)) ?_
      refine go_ireturn dX12_count_74 rfl rfl (Nat.le_of_ble_eq_true rfl) (Nat.le_of_ble_eq_true rfl) ?_
      exact ⟨F2, A2, R2, g1, g2, by rw [hv]; exact congrArg (fun z => some (Value.int z)) (show B.2 (nI 0).toNatClampNeg = _ from by rw [nI_clamp (show 0 < 2 ^ 31 by decide), ok.ht]; rfl), rfl⟩
    | 3, _ =>
      refine go_tblIn 66 dX12_count_5 (by decide) (by decide) rfl (by decide) ?_
      refine go_aload_n dX12_count_66 rfl ?_
      refine go_getf fX12_25 dX12_count_67 rfl rfl ?_
      refine go_iload_n dX12_count_70 rfl ?_
      refine go_iconst (2) dX12_count_71 (by decide) ?_
      refine go_isub dX12_count_72 ?_
      rw [show nI 3 - 2 = nI 1 from by decide]
      refine go_iald dX12_count_73 rfl (vp_in_nI (by decide) (by decide)) ?_
      refine go_ireturn dX12_count_74 rfl rfl (Nat.le_of_ble_eq_true rfl) (Nat.le_of_ble_eq_true rfl) ?_
      exact ⟨F2, A2, R2, g1, g2, by rw [hv]; exact congrArg (fun z => some (Value.int z)) (show B.2 (nI 1).toNatClampNeg = _ from by rw [nI_clamp (show 1 < 2 ^ 31 by decide), ok.hu]; rfl), rfl⟩
    | 4, _ =>
      refine go_tblIn 75 dX12_count_5 (by decide) (by decide) rfl (by decide) ?_
      refine go_aload_n dX12_count_75 rfl ?_
      refine go_callVsi (z := MX12_fights) dX12_count_76 lX12_271 sX12_fights (ev_X12_fights U lt B F2 A2 se R2 O V al dr hA g3) rfl rfl rfl ⟨_, _, rfl⟩ rfl rfl ?_
      refine go_ireturn dX12_count_79 rfl rfl (Nat.le_of_ble_eq_true rfl) (Nat.le_of_ble_eq_true rfl) ?_
      exact ⟨F2, A2, R2, g1, g2, by rw [hv]; first | rfl | (rw [ok.e0, ok.e1, ok.e2]; rfl), rfl⟩
    | 5, _ =>
      refine go_tblIn 80 dX12_count_5 (by decide) (by decide) rfl (by decide) ?_
      refine go_aload_n dX12_count_80 rfl ?_
      refine go_getf fX12_46 dX12_count_81 rfl rfl ?_
      refine go_aload_n dX12_count_84 rfl ?_
      refine go_getf fX12_118 dX12_count_85 rfl rfl ?_
      refine go_iald dX12_count_88 rfl (vp_in_nI (by omega) (by decide)) ?_
      rw [nI_clamp (show A2.1 < 2 ^ 31 by omega)]
      refine go_ireturn dX12_count_89 rfl rfl (Nat.le_of_ble_eq_true rfl) (Nat.le_of_ble_eq_true rfl) ?_
      exact ⟨F2, A2, R2, g1, g2, by rw [hv]; exact congrArg (fun z => some (Value.int z)) (by rw [(g3.2 A2.1 (Nat.le_refl _)).2, ok.e0, ok.e1, ok.e2]; rfl), rfl⟩
    | 6, _ =>
      refine go_tblIn 90 dX12_count_5 (by decide) (by decide) rfl (by decide) ?_
      refine go_aload_n dX12_count_90 rfl ?_
      refine go_callVsi (z := MX12_named) dX12_count_91 lX12_274 sX12_named (ev_X12_named U lt B F2 A2 se R2 O V al dr hF hA g3) rfl rfl rfl ⟨_, _, rfl⟩ rfl rfl ?_
      refine go_ireturn dX12_count_94 rfl rfl (Nat.le_of_ble_eq_true rfl) (Nat.le_of_ble_eq_true rfl) ?_
      exact ⟨F2, A2, R2, g1, g2, by rw [hv]; first | rfl | (rw [ok.e0, ok.e1, ok.e2]; rfl), rfl⟩
    | 7, _ =>
      refine go_tblIn 95 dX12_count_5 (by decide) (by decide) rfl (by decide) ?_
      refine go_aload_n dX12_count_95 rfl ?_
      refine go_getf fX12_240 dX12_count_96 rfl rfl ?_
      refine go_ireturn dX12_count_99 rfl rfl (Nat.le_of_ble_eq_true rfl) (Nat.le_of_ble_eq_true rfl) ?_
      exact ⟨F2, A2, R2, g1, g2, by rw [hv]; first | rfl | (rw [ok.e0, ok.e1, ok.e2]; rfl), rfl⟩
    | 8, _ =>
      refine go_tblIn 100 dX12_count_5 (by decide) (by decide) rfl (by decide) ?_
      refine go_aload_n dX12_count_100 rfl ?_
      refine go_getf fX12_77 dX12_count_101 rfl rfl ?_
      refine go_ireturn dX12_count_104 rfl rfl (Nat.le_of_ble_eq_true rfl) (Nat.le_of_ble_eq_true rfl) ?_
      exact ⟨F2, A2, R2, g1, g2, by rw [hv]; first | rfl | (rw [ok.e0, ok.e1, ok.e2]; rfl), rfl⟩
    | j + 9, h => exact absurd h (by omega)
theorem i64_of (x : Int32) : x.toInt64.toInt = x.toInt := Int32.toInt_toInt64 x
theorem sum_le {i n : Int32} (hi : ¬ i < 0) (hn : ¬ n < 0) : (i.toInt64 + n.toInt64).toInt = i.toInt + n.toInt := by
  have a1 := Int32.toInt_lt i
  have a2 := Int32.toInt_lt n
  rw [Int32.lt_iff_toInt_lt, show ((0 : Int32)).toInt = 0 from rfl] at hi hn
  rw [Int64.toInt_add, i64_of, i64_of, Int.bmod_eq_of_le (by omega) (by omega)]
/-- a stretch that fits, told by longs and told by ints -/
theorem strc {i n : Int32} {z : Nat} (hz : z ≤ 60) (hi : ¬ i < 0) (hn : ¬ n < 0) : lg_cmp (i.toInt64 + n.toInt64) (nI z).toInt64 ≤ 0 ↔ ¬ (i < 0 ∨ n < 0 ∨ nI z < i ∨ nI z - i < n) := by
  rw [lg_cmp_le, Int64.le_iff_toInt_le, sum_le hi hn, i64_of]
  have a1 := Int32.toInt_lt i
  have a2 := Int32.toInt_lt n
  have ez : (nI z).toInt = z := nI_toInt (by omega)
  have b1 := hi
  have b2 := hn
  rw [Int32.lt_iff_toInt_lt, show ((0 : Int32)).toInt = 0 from rfl] at b1 b2
  have es : (nI z - i).toInt = z - i.toInt := by
    rw [Int32.toInt_sub, ez, Int.bmod_eq_of_le (by omega) (by omega)]
  rw [Int32.lt_iff_toInt_lt (x := nI z), Int32.lt_iff_toInt_lt (x := nI z - i), es, ez]
  constructor
  · intro h q
    rcases q with q | q | q | q
    · exact hi q
    · exact hn q
    · omega
    · omega
  · intro h
    have h1 : ¬ ((z : Int) < i.toInt) := fun q => h (Or.inr (Or.inr (Or.inl q)))
    have h2 : ¬ ((z : Int) - i.toInt < n.toInt) := fun q => h (Or.inr (Or.inr (Or.inr q)))
    omega
/-- what the model's copying lays: out of a row beside -/
def cpI (o : Nat) (mv f : Nat → Int32) : Nat → Nat → Int32
  | 0 => f
  | a + 1 => upd (cpI o mv f a) (o + a) (mv a)
theorem cpI_at (o : Nat) (mv f : Nat → Int32) (j : Nat) : ∀ a, cpI o mv f a j = if o ≤ j ∧ j < o + a then mv (j - o) else f j
  | 0 => by rw [if_neg (by omega)]; rfl
  | a + 1 => by
    show upd (cpI o mv f a) (o + a) (mv a) j = _
    by_cases h : j = o + a
    · subst h
      rw [pk_us, if_pos (by omega), Nat.add_sub_cancel_left]
    · rw [pk_un h, cpI_at o mv f j a]
      by_cases h2 : o ≤ j ∧ j < o + a
      · rw [if_pos h2, if_pos (by omega)]
      · rw [if_neg h2, if_neg (by omega)]
theorem sixty2 (s i a : Nat) : (60 : Int32) * nI s + nI i + nI a = nI (60 * s + i + a) := by rw [sixty, nI_add]
theorem str_in {i n : Int32} {z : Nat} (hz : z ≤ 60) (h : ¬ (i < 0 ∨ n < 0 ∨ nI z < i ∨ nI z - i < n)) : ∃ a0, i = nI a0 ∧ a0 ≤ 60 := by
  obtain ⟨h1, h2⟩ := in_range (x := i) (n := z + 1) (fun q => h (Or.inl q)) (fun q => h (Or.inr (Or.inr (Or.inl (lt_succ (by omega) q))))) (by omega)
  exact ⟨_, h1, by omega⟩
theorem str_in2 {i n : Int32} {z : Nat} (hz : z ≤ 60) (h : ¬ (i < 0 ∨ n < 0 ∨ nI z < i ∨ nI z - i < n)) : ∃ a0, n = nI a0 ∧ a0 ≤ 60 := by
  have h1 : ¬ n < 0 := fun q => h (Or.inr (Or.inl q))
  have hi : ¬ i < 0 := fun q => h (Or.inl q)
  have h2 := (strc hz hi h1).mpr h
  rw [lg_cmp_le, Int64.le_iff_toInt_le, sum_le hi h1, i64_of, nI_toInt (by omega)] at h2
  have h3 := h1
  rw [Int32.lt_iff_toInt_lt, show ((0 : Int32)).toInt = 0 from rfl] at hi h3
  obtain ⟨e1, e2⟩ := in_range (x := n) (n := 61) h1 (fun q => by
    rw [Int32.le_iff_toInt_le, nI_toInt (by decide)] at q
    omega) (by decide)
  exact ⟨_, e1, by omega⟩
theorem str_out {a b z : Nat} (hz : z ≤ 60) (ha : a ≤ 60) (hb : b ≤ 60) (h : z < a + b) : nI a < 0 ∨ nI b < 0 ∨ nI z < nI a ∨ nI z - nI a < nI b := by
  by_cases q : z < a
  · exact Or.inr (Or.inr (Or.inl (nI_lt q (by omega))))
  · refine Or.inr (Or.inr (Or.inr ?_))
    have e : nI z - nI a = nI (z - a) := by
      rw [show z = a + (z - a) by omega, ← nI_add, Int32.add_comm, Int32.add_sub_cancel, Nat.add_sub_cancel_left]
    rw [e]
    exact nI_lt (by omega) (by omega)
set_option maxRecDepth 100000 in
theorem ev_X12_copy (U : TU) (lt : Int32) (B : TB2) (F A : TX) (se : AF) (R : TR) (O : TO) (V : TX) (al : AF) (dr : Int32) (s t : Nat) (hs : s < 4) (ht : t < 4) (z y : Nat) (hz : z ≤ 60) (hy : y ≤ 60) (hU : U.2.1 s = nI z) (hY : U.2.1 t = nI y) (i j n : Int32) : Ev MX12_copy [.ref 0, .int (nI s), .int i, .int (nI t), .int j, .int n] (mwd U lt B F A se R O V al dr) (fun v w => (U.1 s < 0 ∨ U.1 t < 0) ∧ v = some (.int (-11)) ∧ w = (mwd U 1 B F A se R O V al dr) ∨ ¬ (U.1 s < 0 ∨ U.1 t < 0) ∧ ¬ U.1 s = U.1 t ∧ v = some (.int (-14)) ∧ w = (mwd U 4 B F A se R O V al dr) ∨ ¬ (U.1 s < 0 ∨ U.1 t < 0) ∧ U.1 s = U.1 t ∧ ((i < 0 ∨ n < 0 ∨ nI z < i ∨ nI z - i < n) ∨ (j < 0 ∨ n < 0 ∨ nI y < j ∨ nI y - j < n)) ∧ v = some (.int (-12)) ∧ w = (mwd U 2 B F A se R O V al dr) ∨ ¬ (U.1 s < 0 ∨ U.1 t < 0) ∧ U.1 s = U.1 t ∧ ¬ ((i < 0 ∨ n < 0 ∨ nI z < i ∨ nI z - i < n) ∨ (j < 0 ∨ n < 0 ∨ nI y < j ∨ nI y - j < n)) ∧ v = some (.int 1) ∧ ∃ it2 mv2 : AF, w = (mwd (U.1, U.2.1, it2, mv2) lt B F A se R O V al dr) ∧ ∀ k, it2 k = if 60 * t + j.toNatClampNeg ≤ k ∧ k < 60 * t + j.toNatClampNeg + n.toNatClampNeg then U.2.2.1 (60 * s + i.toNatClampNeg + (k - (60 * t + j.toNatClampNeg))) else U.2.2.1 k) := by
  refine ev_of bX12_copy [some (.ref 0), some (.int (nI s)), some (.int i), some (.int (nI t)), some (.int j), some (.int n), none] (Nat.le_of_ble_eq_true rfl) rfl ?_
  refine go_iload_n dX12_copy_0 rfl ?_
  refine go_callSi (z := MX12_isSheet) [] dX12_copy_1 lX12_83 sX12_isSheet (ev_X12_isSheet _) rfl rfl rfl rfl rfl rfl ?_
  refine go_if_eq 14 dX12_copy_4 (by decide) (fun c_4 => absurd c_4 (sht_f hs)) (fun _ => ?_)
  refine go_iload_n dX12_copy_7 rfl ?_
  refine go_callSi (z := MX12_isSheet) [] dX12_copy_8 lX12_83 sX12_isSheet (ev_X12_isSheet (nI t)) rfl rfl rfl rfl rfl rfl ?_
  refine go_if_ne 17 dX12_copy_11 (by decide) (fun _ => ?_) (fun c_11 => absurd c_11 (sht_f ht))
  refine go_aload_n dX12_copy_17 rfl ?_
  refine go_getf fX12_7 dX12_copy_18 rfl rfl ?_
  refine go_iload_n dX12_copy_21 rfl ?_
  refine go_iald dX12_copy_22 rfl (vp_in_nI (by omega) (by decide)) ?_
  simp only [nI_clamp (show s < 2 ^ 31 by omega)]
  refine go_if_lt 35 dX12_copy_23 (by decide) (fun c_23 => ?_) (fun c_23 => ?_)
  · refine go_aload_n dX12_copy_35 rfl ?_
    refine go_iconst (1) dX12_copy_36 (by decide) ?_
    refine go_callVsw (z := MX12_finds) dX12_copy_37 lX12_89 sX12_finds (ev_X12_finds U lt B F A se R O V al dr (1)) rfl rfl rfl ⟨_, _, rfl⟩ rfl rfl rfl ?_
    refine go_ireturn dX12_copy_40 rfl rfl (Nat.le_of_ble_eq_true rfl) (Nat.le_of_ble_eq_true rfl) ?_
    exact Or.inl ⟨by first | exact Or.inl c_23 | exact Or.inr (Int32.not_le.mp c_32), rfl, rfl⟩
  · refine go_aload_n dX12_copy_26 rfl ?_
    refine go_getf fX12_7 dX12_copy_27 rfl rfl ?_
    refine go_iload_n dX12_copy_30 rfl ?_
    refine go_iald dX12_copy_31 rfl (vp_in_nI (by omega) (by decide)) ?_
    simp only [nI_clamp (show t < 2 ^ 31 by omega)]
    refine go_if_ge 41 dX12_copy_32 (by decide) (fun c_32 => ?_) (fun c_32 => ?_)
    · have hl1 := c_23
      have hl2 := Int32.not_lt.mpr c_32
      refine go_aload_n dX12_copy_41 rfl ?_
      refine go_getf fX12_7 dX12_copy_42 rfl rfl ?_
      refine go_iload_n dX12_copy_45 rfl ?_
      refine go_iald dX12_copy_46 rfl (vp_in_nI (by omega) (by decide)) ?_
      simp only [nI_clamp (show s < 2 ^ 31 by omega)]
      refine go_aload_n dX12_copy_47 rfl ?_
      refine go_getf fX12_7 dX12_copy_48 rfl rfl ?_
      refine go_iload_n dX12_copy_51 rfl ?_
      refine go_iald dX12_copy_52 rfl (vp_in_nI (by omega) (by decide)) ?_
      simp only [nI_clamp (show t < 2 ^ 31 by omega)]
      refine go_icmp_eq 62 dX12_copy_53 (by decide) (fun c_53 => ?_) (fun c_53 => ?_)
      · have heq := c_53
        refine go_iload_n dX12_copy_62 rfl ?_
        refine go_if_lt 111 dX12_copy_63 (by decide) (fun c_63 => ?_) (fun c_63 => ?_)
        · refine go_aload_n dX12_copy_111 rfl ?_
          refine go_iconst (2) dX12_copy_112 (by decide) ?_
          refine go_callVsw (z := MX12_finds) dX12_copy_113 lX12_89 sX12_finds (ev_X12_finds U lt B F A se R O V al dr (2)) rfl rfl rfl ⟨_, _, rfl⟩ rfl rfl rfl ?_
          refine go_ireturn dX12_copy_116 rfl rfl (Nat.le_of_ble_eq_true rfl) (Nat.le_of_ble_eq_true rfl) ?_
          first
          | exact Or.inr (Or.inr (Or.inl ⟨fun q => q.elim hl1 hl2, heq, Or.inr (Decidable.of_not_not (fun q => c_108 ((strc hy hj0 hn0).mpr q))), rfl, rfl⟩))
          | exact Or.inr (Or.inr (Or.inl ⟨fun q => q.elim hl1 hl2, heq, Or.inl (Decidable.of_not_not (fun q => Int64.not_le.mpr ((lg_cmp_gt _ _).mp c_90) ((lg_cmp_le _ _).mp ((strc hz hi0 hn0).mpr q)))), rfl, rfl⟩))
          | exact Or.inr (Or.inr (Or.inl ⟨fun q => q.elim hl1 hl2, heq, Or.inl (Or.inr (Or.inl c_73)), rfl, rfl⟩))
          | exact Or.inr (Or.inr (Or.inl ⟨fun q => q.elim hl1 hl2, heq, Or.inr (Or.inl c_68), rfl, rfl⟩))
          | exact Or.inr (Or.inr (Or.inl ⟨fun q => q.elim hl1 hl2, heq, Or.inl (Or.inl c_63), rfl, rfl⟩))
        · refine go_iload dX12_copy_66 rfl ?_
          refine go_if_lt 111 dX12_copy_68 (by decide) (fun c_68 => ?_) (fun c_68 => ?_)
          · refine go_aload_n dX12_copy_111 rfl ?_
            refine go_iconst (2) dX12_copy_112 (by decide) ?_
            refine go_callVsw (z := MX12_finds) dX12_copy_113 lX12_89 sX12_finds (ev_X12_finds U lt B F A se R O V al dr (2)) rfl rfl rfl ⟨_, _, rfl⟩ rfl rfl rfl ?_
            refine go_ireturn dX12_copy_116 rfl rfl (Nat.le_of_ble_eq_true rfl) (Nat.le_of_ble_eq_true rfl) ?_
            first
            | exact Or.inr (Or.inr (Or.inl ⟨fun q => q.elim hl1 hl2, heq, Or.inr (Decidable.of_not_not (fun q => c_108 ((strc hy hj0 hn0).mpr q))), rfl, rfl⟩))
            | exact Or.inr (Or.inr (Or.inl ⟨fun q => q.elim hl1 hl2, heq, Or.inl (Decidable.of_not_not (fun q => Int64.not_le.mpr ((lg_cmp_gt _ _).mp c_90) ((lg_cmp_le _ _).mp ((strc hz hi0 hn0).mpr q)))), rfl, rfl⟩))
            | exact Or.inr (Or.inr (Or.inl ⟨fun q => q.elim hl1 hl2, heq, Or.inl (Or.inr (Or.inl c_73)), rfl, rfl⟩))
            | exact Or.inr (Or.inr (Or.inl ⟨fun q => q.elim hl1 hl2, heq, Or.inr (Or.inl c_68), rfl, rfl⟩))
            | exact Or.inr (Or.inr (Or.inl ⟨fun q => q.elim hl1 hl2, heq, Or.inl (Or.inl c_63), rfl, rfl⟩))
          · refine go_iload dX12_copy_71 rfl ?_
            refine go_if_lt 111 dX12_copy_73 (by decide) (fun c_73 => ?_) (fun c_73 => ?_)
            · refine go_aload_n dX12_copy_111 rfl ?_
              refine go_iconst (2) dX12_copy_112 (by decide) ?_
              refine go_callVsw (z := MX12_finds) dX12_copy_113 lX12_89 sX12_finds (ev_X12_finds U lt B F A se R O V al dr (2)) rfl rfl rfl ⟨_, _, rfl⟩ rfl rfl rfl ?_
              refine go_ireturn dX12_copy_116 rfl rfl (Nat.le_of_ble_eq_true rfl) (Nat.le_of_ble_eq_true rfl) ?_
              first
              | exact Or.inr (Or.inr (Or.inl ⟨fun q => q.elim hl1 hl2, heq, Or.inr (Decidable.of_not_not (fun q => c_108 ((strc hy hj0 hn0).mpr q))), rfl, rfl⟩))
              | exact Or.inr (Or.inr (Or.inl ⟨fun q => q.elim hl1 hl2, heq, Or.inl (Decidable.of_not_not (fun q => Int64.not_le.mpr ((lg_cmp_gt _ _).mp c_90) ((lg_cmp_le _ _).mp ((strc hz hi0 hn0).mpr q)))), rfl, rfl⟩))
              | exact Or.inr (Or.inr (Or.inl ⟨fun q => q.elim hl1 hl2, heq, Or.inl (Or.inr (Or.inl c_73)), rfl, rfl⟩))
              | exact Or.inr (Or.inr (Or.inl ⟨fun q => q.elim hl1 hl2, heq, Or.inr (Or.inl c_68), rfl, rfl⟩))
              | exact Or.inr (Or.inr (Or.inl ⟨fun q => q.elim hl1 hl2, heq, Or.inl (Or.inl c_63), rfl, rfl⟩))
            · have hi0 := c_63
              have hj0 := c_68
              have hn0 := c_73
              refine go_iload_n dX12_copy_76 rfl ?_
              refine go_i2l dX12_copy_77 ?_
              refine go_iload dX12_copy_78 rfl ?_
              refine go_i2l dX12_copy_80 ?_
              refine go_ladd dX12_copy_81 ?_
              refine go_aload_n dX12_copy_82 rfl ?_
              refine go_getf fX12_13 dX12_copy_83 rfl rfl ?_
              refine go_iload_n dX12_copy_86 rfl ?_
              refine go_iald dX12_copy_87 rfl (vp_in_nI (by omega) (by decide)) ?_
              simp only [nI_clamp (show s < 2 ^ 31 by omega)]
              rw [hU]
              refine go_i2l dX12_copy_88 ?_
              refine go_lcmp dX12_copy_89 ?_
              refine go_if_gt 111 dX12_copy_90 (by decide) (fun c_90 => ?_) (fun c_90 => ?_)
              · refine go_aload_n dX12_copy_111 rfl ?_
                refine go_iconst (2) dX12_copy_112 (by decide) ?_
                refine go_callVsw (z := MX12_finds) dX12_copy_113 lX12_89 sX12_finds (ev_X12_finds U lt B F A se R O V al dr (2)) rfl rfl rfl ⟨_, _, rfl⟩ rfl rfl rfl ?_
                refine go_ireturn dX12_copy_116 rfl rfl (Nat.le_of_ble_eq_true rfl) (Nat.le_of_ble_eq_true rfl) ?_
                first
                | exact Or.inr (Or.inr (Or.inl ⟨fun q => q.elim hl1 hl2, heq, Or.inr (Decidable.of_not_not (fun q => c_108 ((strc hy hj0 hn0).mpr q))), rfl, rfl⟩))
                | exact Or.inr (Or.inr (Or.inl ⟨fun q => q.elim hl1 hl2, heq, Or.inl (Decidable.of_not_not (fun q => Int64.not_le.mpr ((lg_cmp_gt _ _).mp c_90) ((lg_cmp_le _ _).mp ((strc hz hi0 hn0).mpr q)))), rfl, rfl⟩))
                | exact Or.inr (Or.inr (Or.inl ⟨fun q => q.elim hl1 hl2, heq, Or.inl (Or.inr (Or.inl c_73)), rfl, rfl⟩))
                | exact Or.inr (Or.inr (Or.inl ⟨fun q => q.elim hl1 hl2, heq, Or.inr (Or.inl c_68), rfl, rfl⟩))
                | exact Or.inr (Or.inr (Or.inl ⟨fun q => q.elim hl1 hl2, heq, Or.inl (Or.inl c_63), rfl, rfl⟩))
              · refine go_iload dX12_copy_93 rfl ?_
                refine go_i2l dX12_copy_95 ?_
                refine go_iload dX12_copy_96 rfl ?_
                refine go_i2l dX12_copy_98 ?_
                refine go_ladd dX12_copy_99 ?_
                refine go_aload_n dX12_copy_100 rfl ?_
                refine go_getf fX12_13 dX12_copy_101 rfl rfl ?_
                refine go_iload_n dX12_copy_104 rfl ?_
                refine go_iald dX12_copy_105 rfl (vp_in_nI (by omega) (by decide)) ?_
                simp only [nI_clamp (show t < 2 ^ 31 by omega)]
                rw [hY]
                refine go_i2l dX12_copy_106 ?_
                refine go_lcmp dX12_copy_107 ?_
                refine go_if_le 117 dX12_copy_108 (by decide) (fun c_108 => ?_) (fun c_108 => ?_)
                · refine go_iconst (0) dX12_copy_117 (by decide) ?_
                  refine go_istore dX12_copy_118 (by decide) ?_
                  have hb : ¬ ((i < 0 ∨ n < 0 ∨ nI z < i ∨ nI z - i < n) ∨ (j < 0 ∨ n < 0 ∨ nI y < j ∨ nI y - j < n)) := fun q => q.elim ((strc hz hi0 hn0).mp ((lg_cmp_le _ _).mpr (Int64.not_lt.mp (fun q => c_90 ((lg_cmp_gt _ _).mpr q))))) ((strc hy hj0 hn0).mp c_108)
                  obtain ⟨a0, hi1, hi2⟩ : ∃ a0, i = nI a0 ∧ a0 ≤ 60 := str_in hz (fun q => hb (Or.inl q))
                  obtain ⟨b0, hj1, hj2⟩ : ∃ a0, j = nI a0 ∧ a0 ≤ 60 := str_in hy (fun q => hb (Or.inr q))
                  obtain ⟨n0, hn1, hn2⟩ : ∃ a0, n = nI a0 ∧ a0 ≤ 60 := str_in2 hz (fun q => hb (Or.inl q))
                  have hs1 : a0 + n0 ≤ z := by
                    refine Nat.le_of_not_lt fun q => hb (Or.inl ?_)
                    rw [hi1, hn1]
                    exact str_out hz hi2 hn2 q
                  have hs2 : b0 + n0 ≤ y := by
                    refine Nat.le_of_not_lt fun q => hb (Or.inr ?_)
                    rw [hj1, hn1]
                    exact str_out hy hj2 hn2 q
                  obtain ⟨QQ, hQQ⟩ : ∃ QQ : Option Value → List AE → Prop, QQ = (fun v w => (U.1 s < 0 ∨ U.1 t < 0) ∧ v = some (.int (-11)) ∧ w = (mwd U 1 B F A se R O V al dr) ∨ ¬ (U.1 s < 0 ∨ U.1 t < 0) ∧ ¬ U.1 s = U.1 t ∧ v = some (.int (-14)) ∧ w = (mwd U 4 B F A se R O V al dr) ∨ ¬ (U.1 s < 0 ∨ U.1 t < 0) ∧ U.1 s = U.1 t ∧ ((i < 0 ∨ n < 0 ∨ nI z < i ∨ nI z - i < n) ∨ (j < 0 ∨ n < 0 ∨ nI y < j ∨ nI y - j < n)) ∧ v = some (.int (-12)) ∧ w = (mwd U 2 B F A se R O V al dr) ∨ ¬ (U.1 s < 0 ∨ U.1 t < 0) ∧ U.1 s = U.1 t ∧ ¬ ((i < 0 ∨ n < 0 ∨ nI z < i ∨ nI z - i < n) ∨ (j < 0 ∨ n < 0 ∨ nI y < j ∨ nI y - j < n)) ∧ v = some (.int 1) ∧ ∃ it2 mv2 : AF, w = (mwd (U.1, U.2.1, it2, mv2) lt B F A se R O V al dr) ∧ ∀ k, it2 k = if 60 * t + j.toNatClampNeg ≤ k ∧ k < 60 * t + j.toNatClampNeg + n.toNatClampNeg then U.2.2.1 (60 * s + i.toNatClampNeg + (k - (60 * t + j.toNatClampNeg))) else U.2.2.1 k) := ⟨_, rfl⟩
                  rw [← hQQ]
                  have hfin : ∀ it2 mv2 : AF, (∀ k, it2 k = if 60 * t + b0 ≤ k ∧ k < 60 * t + b0 + n0 then U.2.2.1 (60 * s + a0 + (k - (60 * t + b0))) else U.2.2.1 k) → QQ (some (.int 1)) (mwd (U.1, U.2.1, it2, mv2) lt B F A se R O V al dr) := by
                    intro it2 mv2 h
                    rw [hQQ]
                    refine Or.inr (Or.inr (Or.inr ⟨fun q => q.elim hl1 hl2, heq, hb, rfl, it2, mv2, rfl, ?_⟩))
                    rw [hi1, hj1, hn1, nI_clamp (by omega), nI_clamp (by omega), nI_clamp (by omega)]
                    exact h
                  clear hQQ hb hi0 hn0 hj0 c_63 c_68 c_73 c_90 c_108
                  subst hi1 hj1 hn1
                  suffices loop : ∀ (d a : Nat) (mv : AF), a + d = n0 → (∀ k, k < a → mv k = U.2.2.1 (60 * s + a0 + k)) → Go X0 MX12_copy QQ 21 0 0 120 [some (.ref 0), some (.int (nI s)), some (.int (nI a0)), some (.int (nI t)), some (.int (nI b0)), some (.int (nI n0)), some (.int (nI a))] [] (mwd (U.1, U.2.1, U.2.2.1, mv) lt B F A se R O V al dr) from loop n0 0 U.2.2.2 (by omega) (fun k h => absurd h (by omega))
                  intro d
                  induction d with
                  | zero =>
                    intro a mv ha hm
                    refine go_iload dX12_copy_120 rfl ?_
                    refine go_iload dX12_copy_122 rfl ?_
                    refine go_icmp_ge 154 dX12_copy_124 (by decide) (fun _ => ?_) (fun c_124 => absurd (nI_le (by omega) (by omega)) c_124)
                    refine go_iconst (0) dX12_copy_154 (by decide) ?_
                    refine go_istore dX12_copy_155 (by decide) ?_
                    suffices loop2 : ∀ (d c : Nat), c + d = n0 → Go X0 MX12_copy QQ 21 0 0 157 [some (.ref 0), some (.int (nI s)), some (.int (nI a0)), some (.int (nI t)), some (.int (nI b0)), some (.int (nI n0)), some (.int (nI c))] [] (mwd (U.1, U.2.1, cpI (60 * t + b0) mv U.2.2.1 c, mv) lt B F A se R O V al dr) from loop2 n0 0 (by omega)
                    intro d
                    induction d with
                    | zero =>
                      intro c hc
                      refine go_iload dX12_copy_157 rfl ?_
                      refine go_iload dX12_copy_159 rfl ?_
                      refine go_icmp_ge 192 dX12_copy_161 (by decide) (fun _ => ?_) (fun c_161 => absurd (nI_le (by omega) (by omega)) c_161)
                      refine go_iconst (1) dX12_copy_192 (by decide) ?_
                      refine go_ireturn dX12_copy_193 rfl rfl (Nat.le_of_ble_eq_true rfl) (Nat.le_of_ble_eq_true rfl) ?_
                      refine hfin _ mv (fun k => ?_)
                      rw [cpI_at, show c = n0 by omega]
                      by_cases q : 60 * t + b0 ≤ k ∧ k < 60 * t + b0 + n0
                      · rw [if_pos q, if_pos q, hm _ (by omega)]
                      · rw [if_neg q, if_neg q]
                    | succ d ih =>
                      intro c hc
                      refine go_iload dX12_copy_157 rfl ?_
                      refine go_iload dX12_copy_159 rfl ?_
                      refine go_icmp_ge 192 dX12_copy_161 (by decide) (fun c_161 => absurd c_161 (nI_ge (by omega) (by omega))) (fun _ => ?_)
                      refine go_aload_n dX12_copy_164 rfl ?_
                      refine go_getf fX12_16 dX12_copy_165 rfl rfl ?_
                      refine go_bipush (60) dX12_copy_168 (by decide) ?_
                      refine go_iload_n dX12_copy_170 rfl ?_
                      refine go_imul dX12_copy_171 ?_
                      refine go_iload dX12_copy_172 rfl ?_
                      refine go_iadd dX12_copy_174 ?_
                      refine go_iload dX12_copy_175 rfl ?_
                      refine go_iadd dX12_copy_177 ?_
                      rw [sixty2]
                      refine go_aload_n dX12_copy_178 rfl ?_
                      refine go_getf fX12_19 dX12_copy_179 rfl rfl ?_
                      refine go_iload dX12_copy_182 rfl ?_
                      refine go_iald dX12_copy_184 rfl (vp_in_nI (by omega) (by decide)) ?_
                      simp only [nI_clamp (show c < 2 ^ 31 by omega)]
                      refine go_iast dX12_copy_185 rfl (vp_in_nI (by omega) (by decide)) ?_
                      simp only [nI_clamp (show 60 * t + b0 + c < 2 ^ 31 by omega)]
                      refine go_iincN (1) dX12_copy_186 rfl (by decide) (by decide) ?_
                      refine go_goto 157 dX12_copy_189 (by decide) ?_
                      rw [nI_1]
                      exact ih (c + 1) (by omega)
                  | succ d ih =>
                    intro a mv ha hm
                    refine go_iload dX12_copy_120 rfl ?_
                    refine go_iload dX12_copy_122 rfl ?_
                    refine go_icmp_ge 154 dX12_copy_124 (by decide) (fun c_124 => absurd c_124 (nI_ge (by omega) (by omega))) (fun _ => ?_)
                    refine go_aload_n dX12_copy_127 rfl ?_
                    refine go_getf fX12_19 dX12_copy_128 rfl rfl ?_
                    refine go_iload dX12_copy_131 rfl ?_
                    refine go_aload_n dX12_copy_133 rfl ?_
                    refine go_getf fX12_16 dX12_copy_134 rfl rfl ?_
                    refine go_bipush (60) dX12_copy_137 (by decide) ?_
                    refine go_iload_n dX12_copy_139 rfl ?_
                    refine go_imul dX12_copy_140 ?_
                    refine go_iload_n dX12_copy_141 rfl ?_
                    refine go_iadd dX12_copy_142 ?_
                    refine go_iload dX12_copy_143 rfl ?_
                    refine go_iadd dX12_copy_145 ?_
                    rw [sixty2]
                    refine go_iald dX12_copy_146 rfl (vp_in_nI (by omega) (by decide)) ?_
                    simp only [nI_clamp (show 60 * s + a0 + a < 2 ^ 31 by omega)]
                    refine go_iast dX12_copy_147 rfl (vp_in_nI (by omega) (by decide)) ?_
                    simp only [nI_clamp (show a < 2 ^ 31 by omega)]
                    refine go_iincN (1) dX12_copy_148 rfl (by decide) (by decide) ?_
                    refine go_goto 120 dX12_copy_151 (by decide) ?_
                    rw [nI_1]
                    exact ih (a + 1) (upd mv a (U.2.2.1 (60 * s + a0 + a))) (by omega) (fun k hk => by
                      by_cases e : k = a
                      · subst e; exact pk_us
                      · rw [pk_un e]; exact hm k (by omega))
                · refine go_aload_n dX12_copy_111 rfl ?_
                  refine go_iconst (2) dX12_copy_112 (by decide) ?_
                  refine go_callVsw (z := MX12_finds) dX12_copy_113 lX12_89 sX12_finds (ev_X12_finds U lt B F A se R O V al dr (2)) rfl rfl rfl ⟨_, _, rfl⟩ rfl rfl rfl ?_
                  refine go_ireturn dX12_copy_116 rfl rfl (Nat.le_of_ble_eq_true rfl) (Nat.le_of_ble_eq_true rfl) ?_
                  first
                  | exact Or.inr (Or.inr (Or.inl ⟨fun q => q.elim hl1 hl2, heq, Or.inr (Decidable.of_not_not (fun q => c_108 ((strc hy hj0 hn0).mpr q))), rfl, rfl⟩))
                  | exact Or.inr (Or.inr (Or.inl ⟨fun q => q.elim hl1 hl2, heq, Or.inl (Decidable.of_not_not (fun q => Int64.not_le.mpr ((lg_cmp_gt _ _).mp c_90) ((lg_cmp_le _ _).mp ((strc hz hi0 hn0).mpr q)))), rfl, rfl⟩))
                  | exact Or.inr (Or.inr (Or.inl ⟨fun q => q.elim hl1 hl2, heq, Or.inl (Or.inr (Or.inl c_73)), rfl, rfl⟩))
                  | exact Or.inr (Or.inr (Or.inl ⟨fun q => q.elim hl1 hl2, heq, Or.inr (Or.inl c_68), rfl, rfl⟩))
                  | exact Or.inr (Or.inr (Or.inl ⟨fun q => q.elim hl1 hl2, heq, Or.inl (Or.inl c_63), rfl, rfl⟩))
      · refine go_aload_n dX12_copy_56 rfl ?_
        refine go_iconst (4) dX12_copy_57 (by decide) ?_
        refine go_callVsw (z := MX12_finds) dX12_copy_58 lX12_89 sX12_finds (ev_X12_finds U lt B F A se R O V al dr (4)) rfl rfl rfl ⟨_, _, rfl⟩ rfl rfl rfl ?_
        refine go_ireturn dX12_copy_61 rfl rfl (Nat.le_of_ble_eq_true rfl) (Nat.le_of_ble_eq_true rfl) ?_
        exact Or.inr (Or.inl ⟨fun q => q.elim hl1 hl2, c_53, rfl, rfl⟩)
    · refine go_aload_n dX12_copy_35 rfl ?_
      refine go_iconst (1) dX12_copy_36 (by decide) ?_
      refine go_callVsw (z := MX12_finds) dX12_copy_37 lX12_89 sX12_finds (ev_X12_finds U lt B F A se R O V al dr (1)) rfl rfl rfl ⟨_, _, rfl⟩ rfl rfl rfl ?_
      refine go_ireturn dX12_copy_40 rfl rfl (Nat.le_of_ble_eq_true rfl) (Nat.le_of_ble_eq_true rfl) ?_
      exact Or.inl ⟨by first | exact Or.inl c_23 | exact Or.inr (Int32.not_le.mp c_32), rfl, rfl⟩
theorem ev_mcopy_bad (U : TU) (lt : Int32) (B : TB2) (F A : TX) (se : AF) (R : TR) (O : TO) (V : TX) (al : AF) (dr : Int32) (x i y j n : Int32) (hx : (x < 0 ∨ 3 < x) ∨ (y < 0 ∨ 3 < y)) : Ev MX12_copy [.ref 0, .int x, .int i, .int y, .int j, .int n] (mwd U lt B F A se R O V al dr) (Ri (mwd U lt B F A se R O V al dr) (-2)) := by
  refine ev_of bX12_copy [some (.ref 0), some (.int x), some (.int i), some (.int y), some (.int j), some (.int n), none] (Nat.le_of_ble_eq_true rfl) rfl ?_
  refine go_iload_n dX12_copy_0 rfl ?_
  refine go_callSi (z := MX12_isSheet) [] dX12_copy_1 lX12_83 sX12_isSheet (ev_X12_isSheet x) rfl rfl rfl rfl rfl rfl ?_
  refine go_if_eq 14 dX12_copy_4 (by decide) (fun c_4 => ?_) (fun c_4 => ?_)
  · refine go_bipush (-2) dX12_copy_14 (by decide) ?_
    refine go_ireturn dX12_copy_16 rfl rfl (Nat.le_of_ble_eq_true rfl) (Nat.le_of_ble_eq_true rfl) ?_
    exact ⟨rfl, rfl⟩
  · refine go_iload_n dX12_copy_7 rfl ?_
    refine go_callSi (z := MX12_isSheet) [] dX12_copy_8 lX12_83 sX12_isSheet (ev_X12_isSheet y) rfl rfl rfl rfl rfl rfl ?_
    refine go_if_ne 17 dX12_copy_11 (by decide) (fun c_11 => absurd (if_pos (hx.resolve_left (full_t3 c_4))) c_11) (fun _ => ?_)
    refine go_bipush (-2) dX12_copy_14 (by decide) ?_
    refine go_ireturn dX12_copy_16 rfl rfl (Nat.le_of_ble_eq_true rfl) (Nat.le_of_ble_eq_true rfl) ?_
    exact ⟨rfl, rfl⟩
