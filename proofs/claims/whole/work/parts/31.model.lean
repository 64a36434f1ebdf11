abbrev AF : Type := Nat → Int32
abbrev TU : Type := AF × AF × AF × AF
abbrev TB2 : Type := AF × AF
abbrev TR : Type := AF × AF × AF × AF
abbrev TO : Type := AF × AF × AF × (Nat → Int64) × AF × Int32 × Int64
def mwd (U : TU) (lt : Int32) (B : TB2) (F A : TX) (se : AF) (R : TR) (O : TO) (V : TX) (al : AF) (dr : Int32) : List AE := [zO 10 [.ref 1, .ref 2, .ref 3, .ref 4, .int lt, .ref 5, .ref 6, .int (nI F.1), .ref 7, .int (nI A.1), .ref 8, .ref 9, .ref 10, .ref 11, .ref 12, .ref 13, .ref 14, .ref 15, .ref 16, .ref 17, .ref 18, .int O.2.2.2.2.2.1, .long O.2.2.2.2.2.2, .int (nI V.1), .ref 19, .ref 20, .int dr], zI 4 U.1, zI 4 U.2.1, zI 240 U.2.2.1, zI 60 U.2.2.2, zI 96 B.1, zI 2 B.2, zI 40 F.2, zI 12 A.2, zI 3 se, zI 12 R.1, zI 12 R.2.1, zI 13 R.2.2.1, zI 13 R.2.2.2, zI 9 O.1, zI 10 O.2.1, zI 10 O.2.2.1, zL 10 O.2.2.2.1, zI 8 O.2.2.2.2.1, zI 16 V.2, zI 48 al]
theorem lN_div {a b : Nat} (ha : a < 2 ^ 62) (hb : b < 2 ^ 62) (h0 : 0 < b) : lN a / lN b = lN (a / b) := by
  apply Int64.toInt_inj.mp
  have e1 := pf_lI (a := a) (by omega)
  have e2 := pf_lI (a := b) (by omega)
  have e3 := pf_lI (a := a / b) (by have := Nat.div_le_self a b; omega)
  rw [lg_ldiv_nonneg (by omega) (by omega), e1, e2, e3]
  rfl
theorem lN_rem {a b : Nat} (ha : a < 2 ^ 62) (hb : b < 2 ^ 62) (h0 : 0 < b) : lN a - lN a / lN b * lN b = lN (a % b) := by
  rw [lN_div ha hb h0, lN_mul]
  have e : a = a % b + a / b * b := by rw [Nat.mul_comm]; exact (Nat.mod_add_div a b).symm
  have : lN a = lN (a % b) + lN (a / b * b) := by rw [lN_add, ← e]
  rw [this, Int64.add_sub_cancel]
theorem lN_ne {a : Nat} (ha : a < 2 ^ 62) (h0 : 0 < a) : ¬ lN a = 0 := fun q => by
  have := (pk_lEQ (a := a) (b := 0) (by omega) (by decide)).mp q
  omega
theorem lt_pred {g : Nat} (hg : g < 2 ^ 31) (f : Int32) : nI g - 1 < f ↔ nI g ≤ f := by
  rcases Nat.eq_zero_or_pos g with h | h
  · subst h
    rw [show nI 0 - 1 = (-1 : Int32) from by decide, show nI 0 = (0 : Int32) from rfl, Int32.lt_iff_toInt_lt, Int32.le_iff_toInt_le]
    rw [show ((-1 : Int32)).toInt = -1 from rfl, show ((0 : Int32)).toInt = 0 from rfl]
    omega
  · rw [show nI g - 1 = nI (g - 1) from pk_sub (b := 1) h, Int32.lt_iff_toInt_lt, Int32.le_iff_toInt_le, nI_toInt hg, nI_toInt (by omega)]
    omega
theorem two_iff (x : Int32) : (x < 0 ∨ 1 < x) ↔ ¬ (x = 0 ∨ x = 1) := by
  simp only [Int32.lt_iff_toInt_lt, ← Int32.toInt_inj]
  rw [show ((0 : Int32)).toInt = 0 from rfl, show ((1 : Int32)).toInt = 1 from rfl]
  omega
theorem gcd_odd : ∀ (k a : Nat), a % 2 = 1 → Nat.gcd a (2 ^ k) = 1
  | 0, a, _ => Nat.gcd_one_right a
  | k + 1, a, h => by
    rw [Nat.pow_succ]
    have h1 : Nat.Coprime a 2 := by
      rw [Nat.coprime_iff_gcd_eq_one, Nat.gcd_comm, Nat.gcd_rec, h]; rfl
    exact Nat.Coprime.mul_right (gcd_odd k a h) h1
/-- a fraction over 2 to the 32nd, in lowest terms -/
theorem tol_gcd : ∀ (k a : Nat), k ≤ 32 → a * 2 ^ (32 - k) / Nat.gcd (a * 2 ^ (32 - k)) (2 ^ 32) = (tolN a k).1 ∧ 2 ^ 32 / Nat.gcd (a * 2 ^ (32 - k)) (2 ^ 32) = 2 ^ (tolN a k).2
  | 0, a, _ => by
    rw [Nat.gcd_mul_left_left]
    exact ⟨Nat.mul_div_cancel _ (by decide), Nat.div_self (by decide)⟩
  | k + 1, a, hk => by
    rw [tolN]
    by_cases h : a % 2 = 0
    · rw [if_pos h]
      have e : a * 2 ^ (32 - (k + 1)) = a / 2 * 2 ^ (32 - k) := by
        rw [show 32 - k = (32 - (k + 1)) + 1 by omega, Nat.pow_succ, Nat.mul_comm (2 ^ (32 - (k + 1))) 2, ← Nat.mul_assoc, Nat.div_mul_cancel (Nat.dvd_of_mod_eq_zero h)]
      rw [e]
      exact tol_gcd k (a / 2) (by omega)
    · rw [if_neg h]
      have e : 2 ^ 32 = 2 ^ (k + 1) * 2 ^ (32 - (k + 1)) := by rw [← Nat.pow_add]; exact congrArg _ (by omega)
      have p : 0 < 2 ^ (32 - (k + 1)) := Nat.two_pow_pos _
      rw [e, Nat.gcd_mul_right, gcd_odd (k + 1) a (by omega), Nat.one_mul, Nat.mul_div_cancel _ p, Nat.mul_div_cancel _ p]
      exact ⟨rfl, rfl⟩
theorem clamp6 (s f : Int32) : (if (16 : Int32) ≤ (if 8 + s - f ≤ 0 then 0 else 8 + s - f) then 16 else (if 8 + s - f ≤ 0 then 0 else 8 + s - f)) = sixI 3 s f := by
  unfold sixI
  rw [if_pos rfl]
  generalize 8 + s - f = x
  by_cases h1 : x ≤ 0
  · have : x < 16 := Int32.lt_of_le_of_lt h1 (by decide)
    rw [if_pos h1, if_neg (by decide), if_pos this, if_neg (Int32.not_lt.mpr h1)]
  · rw [if_neg h1]
    by_cases h2 : x < 16
    · rw [if_neg (Int32.not_le.mpr h2), if_pos h2, if_pos (Int32.not_le.mp h1)]
    · rw [if_pos (Int32.not_lt.mp h2), if_neg h2, if_pos (by decide)]
theorem str_3 : ∀ k, k < 10 → (if nI k - 1 ≤ 0 then (0 : Int32) else nI k - 1) = if nI k ≤ 0 then 0 else nI k - 1 := by decide +kernel
theorem str_1 : ∀ a, a < 10 → ∀ k, k < 10 → k ≤ a → (if nI a ≤ nI k + 1 then nI a else nI k + 1) = if nI k < nI a then nI k + 1 else nI k := by decide +kernel
theorem str_eq {c : Int32} {k a : Nat} (ha : a ≤ 9) (hk : k ≤ a) : (if c = 3 then (if nI k - 1 ≤ 0 then 0 else nI k - 1) else if c = 1 ∨ c = 2 then (if nI a ≤ nI k + 1 then nI a else nI k + 1) else nI k) = strI c (nI k) (nI a) := by
  unfold strI
  by_cases h : c = 3
  · rw [if_pos h, if_pos h, str_3 k (by omega)]
  · rw [if_neg h, if_neg h]
    by_cases h2 : c = 1 ∨ c = 2
    · rw [if_pos h2, str_1 a (by omega) k (by omega) hk]
      by_cases h3 : nI k < nI a
      · rw [if_pos h3, if_pos ⟨h2, h3⟩]
      · rw [if_neg h3, if_neg (fun q => h3 q.2)]
    · rw [if_neg h2, if_neg (fun q => h2 q.1)]
theorem nar_if (P : Prop) [Decidable P] : narrow .boolean (.int (if P then (0 : Int32) else 1)) = .int (if P then (0 : Int32) else 1) := by
  by_cases h : P
  · rw [if_pos h]; rfl
  · rw [if_neg h]; rfl
set_option maxRecDepth 100000 in
theorem ev_X12_in (x a b : Int32) (y z : Int64) (hy : y = a.toInt64) (hz : z = b.toInt64) : Ev MX12_in [.long x.toInt64, .long y, .long z] [] (Ri [] (if x < a ∨ b < x then 0 else 1)) := by
  refine ev_of bX12_in [some (.long x.toInt64), none, some (.long y), none, some (.long z), none] (Nat.le_of_ble_eq_true rfl) rfl ?_
  subst hy
  subst hz
  refine go_lload_n dX12_in_0 rfl ?_
  refine go_lload_n dX12_in_1 rfl ?_
  refine go_lcmp dX12_in_2 ?_
  refine go_if_lt 17 dX12_in_3 (by decide) (fun c_3 => ?_) (fun c_3 => ?_)
  · refine go_iconst (0) dX12_in_17 (by decide) ?_
    refine go_ireturn dX12_in_18 rfl (by decide) (Nat.le_of_ble_eq_true rfl) (Nat.le_of_ble_eq_true rfl) ?_
    first
    | exact ⟨by rw [if_pos (Or.inl ((fa_wide_lt _ _).mp ((lg_cmp_lt _ _).mp c_3)))], rfl⟩
    | exact ⟨by rw [if_pos (Or.inr ((fa_wide_lt _ _).mp ((lg_cmp_gt _ _).mp c_10)))], rfl⟩
    | exact ⟨by rw [if_neg (fun q => q.elim (fun q => c_3 ((lg_cmp_lt _ _).mpr ((fa_wide_lt _ _).mpr q))) (fun q => c_10 ((lg_cmp_gt _ _).mpr ((fa_wide_lt _ _).mpr q))))], rfl⟩
  · refine go_lload_n dX12_in_6 rfl ?_
    refine go_lload dX12_in_7 rfl ?_
    refine go_lcmp dX12_in_9 ?_
    refine go_if_gt 17 dX12_in_10 (by decide) (fun c_10 => ?_) (fun c_10 => ?_)
    · refine go_iconst (0) dX12_in_17 (by decide) ?_
      refine go_ireturn dX12_in_18 rfl (by decide) (Nat.le_of_ble_eq_true rfl) (Nat.le_of_ble_eq_true rfl) ?_
      first
      | exact ⟨by rw [if_pos (Or.inl ((fa_wide_lt _ _).mp ((lg_cmp_lt _ _).mp c_3)))], rfl⟩
      | exact ⟨by rw [if_pos (Or.inr ((fa_wide_lt _ _).mp ((lg_cmp_gt _ _).mp c_10)))], rfl⟩
      | exact ⟨by rw [if_neg (fun q => q.elim (fun q => c_3 ((lg_cmp_lt _ _).mpr ((fa_wide_lt _ _).mpr q))) (fun q => c_10 ((lg_cmp_gt _ _).mpr ((fa_wide_lt _ _).mpr q))))], rfl⟩
    · refine go_iconst (1) dX12_in_13 (by decide) ?_
      refine go_goto 18 dX12_in_14 (by decide) ?_
      refine go_ireturn dX12_in_18 rfl (by decide) (Nat.le_of_ble_eq_true rfl) (Nat.le_of_ble_eq_true rfl) ?_
      first
      | exact ⟨by rw [if_pos (Or.inl ((fa_wide_lt _ _).mp ((lg_cmp_lt _ _).mp c_3)))], rfl⟩
      | exact ⟨by rw [if_pos (Or.inr ((fa_wide_lt _ _).mp ((lg_cmp_gt _ _).mp c_10)))], rfl⟩
      | exact ⟨by rw [if_neg (fun q => q.elim (fun q => c_3 ((lg_cmp_lt _ _).mpr ((fa_wide_lt _ _).mpr q))) (fun q => c_10 ((lg_cmp_gt _ _).mpr ((fa_wide_lt _ _).mpr q))))], rfl⟩
set_option maxRecDepth 100000 in
theorem ev_X12_no (x : Int32) : Ev MX12_no [.int x] [] (Rj [] (-9223372036854775808 - x.toInt64)) := by
  refine ev_of bX12_no [some (.int x)] (Nat.le_of_ble_eq_true rfl) rfl ?_
  refine go_ldc2_w dX12_no_0 kX12_71 ?_
  refine go_iload_n dX12_no_3 rfl ?_
  refine go_i2l dX12_no_4 ?_
  refine go_lsub dX12_no_5 ?_
  refine go_lreturn dX12_no_6 rfl (Nat.le_of_ble_eq_true rfl) (Nat.le_of_ble_eq_true rfl) ?_
  exact ⟨rfl, rfl⟩
set_option maxRecDepth 100000 in
theorem ev_X12_isTwo (x : Int32) : Ev MX12_isTwo [.int x] [] (Ri [] (if x < 0 ∨ 1 < x then 0 else 1)) := by
  refine ev_of bX12_isTwo [some (.int x)] (Nat.le_of_ble_eq_true rfl) rfl ?_
  refine go_iload_n dX12_isTwo_0 rfl ?_
  refine go_i2l dX12_isTwo_1 ?_
  refine go_lconst 0 dX12_isTwo_2 (by decide) ?_
  refine go_lconst 1 dX12_isTwo_3 (by decide) ?_
  refine go_callSi (z := MX12_in) [] dX12_isTwo_4 lX12_73 sX12_in (ev_X12_in (x) (0) (1) _ _ rfl rfl) rfl rfl rfl rfl rfl rfl ?_
  refine go_ireturn dX12_isTwo_7 rfl (nar_if _) (Nat.le_of_ble_eq_true rfl) (Nat.le_of_ble_eq_true rfl) ?_
  exact ⟨rfl, rfl⟩
set_option maxRecDepth 100000 in
theorem ev_X12_isSheet (x : Int32) : Ev MX12_isSheet [.int x] [] (Ri [] (if x < 0 ∨ 3 < x then 0 else 1)) := by
  refine ev_of bX12_isSheet [some (.int x)] (Nat.le_of_ble_eq_true rfl) rfl ?_
  refine go_iload_n dX12_isSheet_0 rfl ?_
  refine go_i2l dX12_isSheet_1 ?_
  refine go_lconst 0 dX12_isSheet_2 (by decide) ?_
  refine go_ldc2_w dX12_isSheet_3 kX12_81 ?_
  refine go_callSi (z := MX12_in) [] dX12_isSheet_6 lX12_73 sX12_in (ev_X12_in (x) (0) (3) _ _ rfl rfl) rfl rfl rfl rfl rfl rfl ?_
  refine go_ireturn dX12_isSheet_9 rfl (nar_if _) (Nat.le_of_ble_eq_true rfl) (Nat.le_of_ble_eq_true rfl) ?_
  exact ⟨rfl, rfl⟩
set_option maxRecDepth 100000 in
theorem ev_X12_isIn (m f : Nat) (hm : m < 2 ^ 31) (hf : f < 16) : Ev MX12_isIn [.int (nI m), .int (nI f)] [] (Ri [] (if m.testBit f = true then 1 else 0)) := by
  refine ev_of bX12_isIn [some (.int (nI m)), some (.int (nI f))] (Nat.le_of_ble_eq_true rfl) rfl ?_
  refine go_iload_n dX12_isIn_0 rfl ?_
  refine go_iload_n dX12_isIn_1 rfl ?_
  refine go_ishr dX12_isIn_2 ?_
  refine go_iconst (1) dX12_isIn_3 (by decide) ?_
  refine go_iand dX12_isIn_4 ?_
  rw [shr_bit hm hf]
  refine go_iconst (1) dX12_isIn_5 (by decide) ?_
  refine go_icmp_ne 13 dX12_isIn_6 (by decide) (fun c_6 => ?_) (fun c_6 => ?_)
  · refine go_iconst (0) dX12_isIn_13 (by decide) ?_
    refine go_ireturn dX12_isIn_14 rfl (by decide) (Nat.le_of_ble_eq_true rfl) (Nat.le_of_ble_eq_true rfl) ?_
    first
    | exact ⟨by rw [if_pos (by_contra fun q => c_6 (if_neg q))], rfl⟩
    | exact ⟨by rw [if_neg (fun q => c_6 (if_pos q))], rfl⟩
    | exact ⟨by cases h : m.testBit f <;> simp_all, rfl⟩
  · refine go_iconst (1) dX12_isIn_9 (by decide) ?_
    refine go_goto 14 dX12_isIn_10 (by decide) ?_
    refine go_ireturn dX12_isIn_14 rfl (by decide) (Nat.le_of_ble_eq_true rfl) (Nat.le_of_ble_eq_true rfl) ?_
    first
    | exact ⟨by rw [if_pos (by_contra fun q => c_6 (if_neg q))], rfl⟩
    | exact ⟨by rw [if_neg (fun q => c_6 (if_pos q))], rfl⟩
    | exact ⟨by cases h : m.testBit f <;> simp_all, rfl⟩
set_option maxRecDepth 100000 in
theorem ev_X12_lesser (a b : Int32) : Ev MX12_lesser [.int a, .int b] [] (Ri [] (if b ≤ a then b else a)) := by
  refine ev_of bX12_lesser [some (.int a), some (.int b)] (Nat.le_of_ble_eq_true rfl) rfl ?_
  refine go_iload_n dX12_lesser_0 rfl ?_
  refine go_iload_n dX12_lesser_1 rfl ?_
  refine go_icmp_ge 9 dX12_lesser_2 (by decide) (fun c_2 => ?_) (fun c_2 => ?_)
  · refine go_iload_n dX12_lesser_9 rfl ?_
    refine go_ireturn dX12_lesser_10 rfl rfl (Nat.le_of_ble_eq_true rfl) (Nat.le_of_ble_eq_true rfl) ?_
    first | exact ⟨by rw [if_pos c_2], rfl⟩ | exact ⟨by rw [if_neg c_2], rfl⟩
  · refine go_iload_n dX12_lesser_5 rfl ?_
    refine go_goto 10 dX12_lesser_6 (by decide) ?_
    refine go_ireturn dX12_lesser_10 rfl rfl (Nat.le_of_ble_eq_true rfl) (Nat.le_of_ble_eq_true rfl) ?_
    first | exact ⟨by rw [if_pos c_2], rfl⟩ | exact ⟨by rw [if_neg c_2], rfl⟩
set_option maxRecDepth 100000 in
theorem ev_X12_greater (a b : Int32) : Ev MX12_greater [.int a, .int b] [] (Ri [] (if a ≤ b then b else a)) := by
  refine ev_of bX12_greater [some (.int a), some (.int b)] (Nat.le_of_ble_eq_true rfl) rfl ?_
  refine go_iload_n dX12_greater_0 rfl ?_
  refine go_iload_n dX12_greater_1 rfl ?_
  refine go_icmp_le 9 dX12_greater_2 (by decide) (fun c_2 => ?_) (fun c_2 => ?_)
  · refine go_iload_n dX12_greater_9 rfl ?_
    refine go_ireturn dX12_greater_10 rfl rfl (Nat.le_of_ble_eq_true rfl) (Nat.le_of_ble_eq_true rfl) ?_
    first | exact ⟨by rw [if_pos c_2], rfl⟩ | exact ⟨by rw [if_neg c_2], rfl⟩
  · refine go_iload_n dX12_greater_5 rfl ?_
    refine go_goto 10 dX12_greater_6 (by decide) ?_
    refine go_ireturn dX12_greater_10 rfl rfl (Nat.le_of_ble_eq_true rfl) (Nat.le_of_ble_eq_true rfl) ?_
    first | exact ⟨by rw [if_pos c_2], rfl⟩ | exact ⟨by rw [if_neg c_2], rfl⟩
set_option maxRecDepth 100000 in
theorem ev_X12_cut (f v : Int32) : Ev MX12_cut [.int f, .int v] [] (Ri [] (cutI f v)) := by
  refine ev_of bX12_cut [some (.int f), some (.int v)] (Nat.le_of_ble_eq_true rfl) rfl ?_
  refine go_iload_n dX12_cut_0 rfl ?_
  refine go_if_ne 9 dX12_cut_1 (by decide) (fun c_1 => ?_) (fun c_1 => ?_)
  · refine go_iload_n dX12_cut_9 rfl ?_
    refine go_iconst (1) dX12_cut_10 (by decide) ?_
    refine go_icmp_ne 19 dX12_cut_11 (by decide) (fun c_11 => ?_) (fun c_11 => ?_)
    · refine go_iload_n dX12_cut_19 rfl ?_
      refine go_ireturn dX12_cut_20 rfl rfl (Nat.le_of_ble_eq_true rfl) (Nat.le_of_ble_eq_true rfl) ?_
      exact ⟨by unfold cutI; simp_all, rfl⟩
    · refine go_iload_n dX12_cut_14 rfl ?_
      refine go_i2s dX12_cut_15 ?_
      refine go_goto 20 dX12_cut_16 (by decide) ?_
      refine go_ireturn dX12_cut_20 rfl rfl (Nat.le_of_ble_eq_true rfl) (Nat.le_of_ble_eq_true rfl) ?_
      exact ⟨by unfold cutI; simp_all, rfl⟩
  · refine go_iload_n dX12_cut_4 rfl ?_
    refine go_i2b dX12_cut_5 ?_
    refine go_goto 20 dX12_cut_6 (by decide) ?_
    refine go_ireturn dX12_cut_20 rfl rfl (Nat.le_of_ble_eq_true rfl) (Nat.le_of_ble_eq_true rfl) ?_
    exact ⟨by unfold cutI; simp_all, rfl⟩
set_option maxRecDepth 100000 in
theorem ev_X12_part (a b : Nat) (ha : a < 2 ^ 62) (hb : b < 2 ^ 62) (h0 : 0 < b) (y : Int32) : Ev MX12_part [.long (lN a), .long (lN b), .int y] [] (Rj [] (lN ((if y = 0 then a else b) / Nat.gcd a b))) := by
  refine ev_of bX12_part [some (.long (lN a)), none, some (.long (lN b)), none, some (.int y), none, none, none, none, none, none] (Nat.le_of_ble_eq_true rfl) rfl ?_
  refine go_lload_n dX12_part_0 rfl ?_
  refine go_lstore dX12_part_1 (by decide) ?_
  refine go_lload_n dX12_part_3 rfl ?_
  refine go_lstore dX12_part_4 (by decide) ?_
  suffices loop : ∀ (d u v : Nat) (x9 x10 : Option Value), v < d → u < 2 ^ 62 → v < 2 ^ 62 → Nat.gcd u v = Nat.gcd a b → Go X0 MX12_part (Rj [] (lN ((if y = 0 then a else b) / Nat.gcd a b))) 0 0 0 6 [some (.long (lN a)), none, some (.long (lN b)), none, some (.int y), some (.long (lN u)), none, some (.long (lN v)), none, x9, x10] [] [] from loop (b + 1) a b _ _ (by omega) ha hb rfl
  intro d
  induction d with
  | zero => intro u v x9 x10 hd; exact absurd hd (by omega)
  | succ d ih =>
    intro u v x9 x10 hd hu hv hg
    rcases Nat.eq_zero_or_pos v with h | h
    · subst h
      rw [Nat.gcd_zero_right] at hg
      have gp : 0 < Nat.gcd a b := Nat.gcd_pos_of_pos_right _ h0
      refine go_lload dX12_part_6 rfl ?_
      refine go_lconst 0 dX12_part_8 (by decide) ?_
      refine go_lcmp dX12_part_9 ?_
      refine go_if_eq 31 dX12_part_10 (by decide) (fun _ => ?_) (fun c_10 => absurd ((lg_cmp_eq _ _).mpr rfl) c_10)
      refine go_iload dX12_part_31 rfl ?_
      refine go_if_ne 40 dX12_part_33 (by decide) (fun c_33 => ?_) (fun c_33 => ?_)
      · refine go_lload_n dX12_part_40 rfl ?_
        refine go_lload dX12_part_41 rfl ?_
        refine go_ldiv dX12_part_43 (lN_ne hu (by omega)) ?_
        rw [hg, lN_div (by omega) (by omega) (by omega)]
        refine go_lreturn dX12_part_44 rfl (Nat.le_of_ble_eq_true rfl) (Nat.le_of_ble_eq_true rfl) ?_
        first | exact ⟨by rw [if_pos c_33], rfl⟩ | exact ⟨by rw [if_neg c_33], rfl⟩
      · refine go_lload_n dX12_part_36 rfl ?_
        refine go_goto 41 dX12_part_37 (by decide) ?_
        refine go_lload dX12_part_41 rfl ?_
        refine go_ldiv dX12_part_43 (lN_ne hu (by omega)) ?_
        rw [hg, lN_div (by omega) (by omega) (by omega)]
        refine go_lreturn dX12_part_44 rfl (Nat.le_of_ble_eq_true rfl) (Nat.le_of_ble_eq_true rfl) ?_
        first | exact ⟨by rw [if_pos c_33], rfl⟩ | exact ⟨by rw [if_neg c_33], rfl⟩
    · have hr := Nat.mod_lt u h
      refine go_lload dX12_part_6 rfl ?_
      refine go_lconst 0 dX12_part_8 (by decide) ?_
      refine go_lcmp dX12_part_9 ?_
      refine go_if_eq 31 dX12_part_10 (by decide) (fun c_10 => absurd c_10 (fun q => lN_ne hv h ((lg_cmp_eq _ _).mp q))) (fun _ => ?_)
      refine go_lload dX12_part_13 rfl ?_
      refine go_lload dX12_part_15 rfl ?_
      refine go_lrem dX12_part_17 (lN_ne hv h) ?_
      rw [lN_rem hu hv h]
      refine go_lstore dX12_part_18 (by decide) ?_
      refine go_lload dX12_part_20 rfl ?_
      refine go_lstore dX12_part_22 (by decide) ?_
      refine go_lload dX12_part_24 rfl ?_
      refine go_lstore dX12_part_26 (by decide) ?_
      refine go_goto 6 dX12_part_28 (by decide) ?_
      exact ih v (u % v) _ _ (by omega) hv (by omega) (by rw [← hg, Nat.gcd_comm u v, Nat.gcd_rec v u, Nat.gcd_comm])
set_option maxRecDepth 100000 in
theorem ev_X12_tells (a k : Nat) (hk : k ≤ 32) (ha : a * 2 ^ (32 - k) < 2 ^ 62) (y : Int32) : Ev MX12_tells [.long (lN (a * 2 ^ (32 - k))), .int y] [] (Rj [] (tolL a k y)) := by
  refine ev_of bX12_tells [some (.long (lN (a * 2 ^ (32 - k)))), none, some (.int y)] (Nat.le_of_ble_eq_true rfl) rfl ?_
  refine go_lload_n dX12_tells_0 rfl ?_
  refine go_ldc2_w dX12_tells_1 kX12_171 ?_
  refine go_iload_n dX12_tells_4 rfl ?_
  refine go_callSj (z := MX12_part) [] dX12_tells_5 lX12_173 sX12_part (ev_X12_part (a * 2 ^ (32 - k)) (2 ^ 32) ha (by decide) (by decide) y) rfl rfl rfl rfl rfl rfl ?_
  refine go_lreturn dX12_tells_8 rfl (Nat.le_of_ble_eq_true rfl) (Nat.le_of_ble_eq_true rfl) ?_
  refine ⟨?_, rfl⟩
  have h := tol_gcd k a hk
  unfold tolL
  by_cases q : y = 0
  · rw [if_pos q, if_pos q, h.1]
  · rw [if_neg q, if_neg q, h.2]
set_option maxRecDepth 100000 in
theorem ev_X12_tellsBoth (a k : Nat) (hk : k ≤ 32) (ha : a * 2 ^ (32 - k) < 2 ^ 62) (h : Int64) : Ev MX12_tellsBoth [.long h, .long (lN (a * 2 ^ (32 - k)))] [] (Rj [] (dgs h [tolL a k 0, tolL a k 1])) := by
  refine ev_of bX12_tellsBoth [some (.long h), none, some (.long (lN (a * 2 ^ (32 - k)))), none] (Nat.le_of_ble_eq_true rfl) rfl ?_
  refine go_ldc2_w dX12_tellsBoth_0 kX12_277 ?_
  refine go_ldc2_w dX12_tellsBoth_3 kX12_277 ?_
  refine go_lload_n dX12_tellsBoth_6 rfl ?_
  refine go_lmul dX12_tellsBoth_7 ?_
  refine go_lload_n dX12_tellsBoth_8 rfl ?_
  refine go_iconst (0) dX12_tellsBoth_9 (by decide) ?_
  refine go_callSj (z := MX12_tells) [] dX12_tellsBoth_10 lX12_181 sX12_tells (ev_X12_tells a k hk ha 0) rfl rfl rfl rfl rfl rfl ?_
  refine go_ladd dX12_tellsBoth_13 ?_
  refine go_lmul dX12_tellsBoth_14 ?_
  refine go_lload_n dX12_tellsBoth_15 rfl ?_
  refine go_iconst (1) dX12_tellsBoth_16 (by decide) ?_
  refine go_callSj (z := MX12_tells) [] dX12_tellsBoth_17 lX12_181 sX12_tells (ev_X12_tells a k hk ha 1) rfl rfl rfl rfl rfl rfl ?_
  refine go_ladd dX12_tellsBoth_20 ?_
  refine go_lreturn dX12_tellsBoth_21 rfl (Nat.le_of_ble_eq_true rfl) (Nat.le_of_ble_eq_true rfl) ?_
  exact ⟨rfl, rfl⟩
set_option maxRecDepth 100000 in
theorem ev_X12_figureOf (b m : Int32) : Ev MX12_figureOf [.int b, .int m] [] (Ri [] (if b < 48 ∨ 48 + m < b then -9 else b - 48)) := by
  refine ev_of bX12_figureOf [some (.int b), some (.int m)] (Nat.le_of_ble_eq_true rfl) rfl ?_
  refine go_iload_n dX12_figureOf_0 rfl ?_
  refine go_i2l dX12_figureOf_1 ?_
  refine go_ldc2_w dX12_figureOf_2 kX12_107 ?_
  refine go_bipush (48) dX12_figureOf_5 (by decide) ?_
  refine go_iload_n dX12_figureOf_7 rfl ?_
  refine go_iadd dX12_figureOf_8 ?_
  refine go_i2l dX12_figureOf_9 ?_
  refine go_callSi (z := MX12_in) [] dX12_figureOf_10 lX12_73 sX12_in (ev_X12_in (b) (48) (48 + m) _ _ rfl rfl) rfl rfl rfl rfl rfl rfl ?_
  refine go_if_eq 23 dX12_figureOf_13 (by decide) (fun c_13 => ?_) (fun c_13 => ?_)
  · refine go_bipush (-9) dX12_figureOf_23 (by decide) ?_
    refine go_ireturn dX12_figureOf_25 rfl rfl (Nat.le_of_ble_eq_true rfl) (Nat.le_of_ble_eq_true rfl) ?_
    first | exact ⟨by rw [if_pos (full_t2 c_13)], rfl⟩ | exact ⟨by rw [if_neg (full_t3 c_13)], rfl⟩
  · refine go_iload_n dX12_figureOf_16 rfl ?_
    refine go_bipush (48) dX12_figureOf_17 (by decide) ?_
    refine go_isub dX12_figureOf_19 ?_
    refine go_goto 25 dX12_figureOf_20 (by decide) ?_
    refine go_ireturn dX12_figureOf_25 rfl rfl (Nat.le_of_ble_eq_true rfl) (Nat.le_of_ble_eq_true rfl) ?_
    first | exact ⟨by rw [if_pos (full_t2 c_13)], rfl⟩ | exact ⟨by rw [if_neg (full_t3 c_13)], rfl⟩
