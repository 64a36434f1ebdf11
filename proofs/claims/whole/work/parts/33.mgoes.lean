def AOK (A : TX) : Prop := A.1 ≤ 12 ∧ ∀ i, i < A.1 → A.2 i = nI (nmR A.2 i) ∧ nmR A.2 i < 8
/-- what the model has reckoned of the names -/
def RI (F A : TX) (se : AF) (R : TR) : Prop := (∀ t, t < A.1 → R.1 t = wC F.1 F.2 (nmR A.2) (se 0) (se 1) (se 2) t ∧ R.2.1 t = wX F.1 F.2 (nmR A.2) (se 0) (se 1) (se 2) t) ∧ ∀ t, t ≤ A.1 → R.2.2.1 t = (wst F.1 F.2 (nmR A.2) (se 0) (se 1) (se 2) t).1 ∧ R.2.2.2 t = (wst F.1 F.2 (nmR A.2) (se 0) (se 1) (se 2) t).2
theorem sW_ok (g : Nat) (pf : Nat → Int32) (nm : Nat → Nat) (goal br : Int32) (s0 : Nat) (h9 : s0 ≤ 9) : ∀ i, ∃ k, k ≤ s0 ∧ (wst g pf nm (nI s0) goal br i).1 = nI k
  | 0 => ⟨s0, Nat.le_refl _, rfl⟩
  | i + 1 => by
    obtain ⟨k, hk, e⟩ := sW_ok g pf nm goal br s0 h9 i
    show ∃ k, k ≤ s0 ∧ strI (cmv g pf nm goal br (wst g pf nm (nI s0) goal br i).2 i) (wst g pf nm (nI s0) goal br i).1 (nI s0) = nI k
    rw [e]
    unfold strI
    split
    · split
      · exact ⟨0, by omega, rfl⟩
      · rename_i q
        have : 0 < k := Nat.pos_of_ne_zero fun z => q (by rw [z]; decide)
        exact ⟨k - 1, by omega, pk_sub (b := 1) this⟩
    · split
      · rename_i q
        have := (nI_ltI (by omega) (by omega)).mp q.2
        exact ⟨k + 1, by omega, nI_1 k⟩
      · exact ⟨k, hk, rfl⟩
theorem win_in (c : Int32) : (if c < 1 ∨ 3 < c then (0 : Int32) else 1) = winI c := by
  unfold winI
  have e : (c < 1 ∨ 3 < c) ↔ ¬ (c = 1 ∨ c = 2 ∨ c = 3) := by
    simp only [Int32.lt_iff_toInt_lt, ← Int32.toInt_inj]
    rw [show ((1 : Int32)).toInt = 1 from rfl, show ((2 : Int32)).toInt = 2 from rfl, show ((3 : Int32)).toInt = 3 from rfl]
    omega
  by_cases h : c = 1 ∨ c = 2 ∨ c = 3
  · rw [if_pos h, if_neg (fun q => e.mp q h)]
  · rw [if_neg h, if_pos (e.mpr h)]
theorem mk_s {nm : Nat → Nat} {i m : Nat} (hm : ∀ f, f < 8 → m.testBit f = nmd nm i f) : ∀ f, f < 8 → (m ||| 2 ^ nm i).testBit f = nmd nm (i + 1) f := fun f hf => by
  rw [Nat.testBit_or, Nat.testBit_two_pow, hm f hf, nmd]
  by_cases e : nm i = f <;> simp [e]
theorem six_n {c s f : Int32} (h : ¬ c = 3) : sixI c s f = 16 := if_neg h
theorem five (j k : Nat) : (5 : Int32) * nI j + nI k = nI (5 * j + k) := by rw [show (5 : Int32) = nI 5 from rfl, pk_mul, nI_add]
theorem five0 (j : Nat) : (5 : Int32) * nI j = nI (5 * j) := pk_mul 5 j
set_option maxRecDepth 100000 in
theorem ev_X12_endOf (U : TU) (lt : Int32) (B : TB2) (F A : TX) (se : AF) (R : TR) (O : TO) (V : TX) (al : AF) (dr : Int32) (j : Nat) (hj : j < 8) : Ev MX12_endOf [.ref 0, .int (nI j)] (mwd U lt B F A se R O V al dr) (Ri (mwd U lt B F A se R O V al dr) (ansI (F.2 (5 * j)) (F.2 (5 * j + 3)) (F.2 (5 * j + 2)) (se 2))) := by
  refine ev_of bX12_endOf [some (.ref 0), some (.int (nI j)), none] (Nat.le_of_ble_eq_true rfl) rfl ?_
  refine go_aload_n dX12_endOf_0 rfl ?_
  refine go_getf fX12_28 dX12_endOf_1 rfl rfl ?_
  refine go_iconst (5) dX12_endOf_4 (by decide) ?_
  refine go_iload_n dX12_endOf_5 rfl ?_
  refine go_imul dX12_endOf_6 ?_
  rw [five0]
  refine go_iald dX12_endOf_7 rfl (vp_in_nI (by omega) (by decide)) ?_
  simp only [nI_clamp (show 5 * j < 2 ^ 31 by omega)]
  refine go_istore_n dX12_endOf_8 (by decide) ?_
  refine go_iload_n dX12_endOf_9 rfl ?_
  refine go_iconst (3) dX12_endOf_10 (by decide) ?_
  refine go_icmp_ne 16 dX12_endOf_11 (by decide) (fun c_11 => ?_) (fun c_11 => ?_)
  · refine go_iload_n dX12_endOf_16 rfl ?_
    refine go_iconst (1) dX12_endOf_17 (by decide) ?_
    refine go_icmp_ne 37 dX12_endOf_18 (by decide) (fun c_18 => ?_) (fun c_18 => ?_)
    · refine go_iload_n dX12_endOf_37 rfl ?_
      refine go_iconst (2) dX12_endOf_38 (by decide) ?_
      refine go_icmp_ne 65 dX12_endOf_39 (by decide) (fun c_39 => ?_) (fun c_39 => ?_)
      · refine go_iconst (3) dX12_endOf_65 (by decide) ?_
        refine go_ireturn dX12_endOf_66 rfl rfl (Nat.le_of_ble_eq_true rfl) (Nat.le_of_ble_eq_true rfl) ?_
        exact ⟨by unfold ansI; simp_all, rfl⟩
      · refine go_aload_n dX12_endOf_42 rfl ?_
        refine go_getf fX12_28 dX12_endOf_43 rfl rfl ?_
        refine go_iconst (5) dX12_endOf_46 (by decide) ?_
        refine go_iload_n dX12_endOf_47 rfl ?_
        refine go_imul dX12_endOf_48 ?_
        refine go_iconst (2) dX12_endOf_49 (by decide) ?_
        refine go_iadd dX12_endOf_50 ?_
        rw [show (5 : Int32) * nI j + 2 = nI (5 * j + 2) from five j 2]
        refine go_iald dX12_endOf_51 rfl (vp_in_nI (by omega) (by decide)) ?_
        simp only [nI_clamp (show 5 * j + 2 < 2 ^ 31 by omega)]
        refine go_aload_n dX12_endOf_52 rfl ?_
        refine go_getf fX12_34 dX12_endOf_53 rfl rfl ?_
        refine go_iconst (2) dX12_endOf_56 (by decide) ?_
        refine go_iald dX12_endOf_57 rfl (vp_in_nI (n := 2) (by decide) (by decide)) ?_
        rw [show se (2 : Int32).toNatClampNeg = se 2 from rfl]
        refine go_icmp_lt 65 dX12_endOf_58 (by decide) (fun c_58 => ?_) (fun c_58 => ?_)
        · refine go_iconst (3) dX12_endOf_65 (by decide) ?_
          refine go_ireturn dX12_endOf_66 rfl rfl (Nat.le_of_ble_eq_true rfl) (Nat.le_of_ble_eq_true rfl) ?_
          exact ⟨by unfold ansI; simp_all, rfl⟩
        · refine go_iconst (2) dX12_endOf_61 (by decide) ?_
          refine go_goto 66 dX12_endOf_62 (by decide) ?_
          refine go_ireturn dX12_endOf_66 rfl rfl (Nat.le_of_ble_eq_true rfl) (Nat.le_of_ble_eq_true rfl) ?_
          exact ⟨by unfold ansI; simp_all, rfl⟩
    · refine go_aload_n dX12_endOf_21 rfl ?_
      refine go_getf fX12_28 dX12_endOf_22 rfl rfl ?_
      refine go_iconst (5) dX12_endOf_25 (by decide) ?_
      refine go_iload_n dX12_endOf_26 rfl ?_
      refine go_imul dX12_endOf_27 ?_
      refine go_iconst (3) dX12_endOf_28 (by decide) ?_
      refine go_iadd dX12_endOf_29 ?_
      rw [show (5 : Int32) * nI j + 3 = nI (5 * j + 3) from five j 3]
      refine go_iald dX12_endOf_30 rfl (vp_in_nI (by omega) (by decide)) ?_
      simp only [nI_clamp (show 5 * j + 3 < 2 ^ 31 by omega)]
      refine go_iconst (1) dX12_endOf_31 (by decide) ?_
      refine go_icmp_ne 37 dX12_endOf_32 (by decide) (fun c_32 => ?_) (fun c_32 => ?_)
      · refine go_iload_n dX12_endOf_37 rfl ?_
        refine go_iconst (2) dX12_endOf_38 (by decide) ?_
        refine go_icmp_ne 65 dX12_endOf_39 (by decide) (fun c_39 => ?_) (fun c_39 => ?_)
        · refine go_iconst (3) dX12_endOf_65 (by decide) ?_
          refine go_ireturn dX12_endOf_66 rfl rfl (Nat.le_of_ble_eq_true rfl) (Nat.le_of_ble_eq_true rfl) ?_
          exact ⟨by unfold ansI; simp_all, rfl⟩
        · refine go_aload_n dX12_endOf_42 rfl ?_
          refine go_getf fX12_28 dX12_endOf_43 rfl rfl ?_
          refine go_iconst (5) dX12_endOf_46 (by decide) ?_
          refine go_iload_n dX12_endOf_47 rfl ?_
          refine go_imul dX12_endOf_48 ?_
          refine go_iconst (2) dX12_endOf_49 (by decide) ?_
          refine go_iadd dX12_endOf_50 ?_
          rw [show (5 : Int32) * nI j + 2 = nI (5 * j + 2) from five j 2]
          refine go_iald dX12_endOf_51 rfl (vp_in_nI (by omega) (by decide)) ?_
          simp only [nI_clamp (show 5 * j + 2 < 2 ^ 31 by omega)]
          refine go_aload_n dX12_endOf_52 rfl ?_
          refine go_getf fX12_34 dX12_endOf_53 rfl rfl ?_
          refine go_iconst (2) dX12_endOf_56 (by decide) ?_
          refine go_iald dX12_endOf_57 rfl (vp_in_nI (n := 2) (by decide) (by decide)) ?_
          rw [show se (2 : Int32).toNatClampNeg = se 2 from rfl]
          refine go_icmp_lt 65 dX12_endOf_58 (by decide) (fun c_58 => ?_) (fun c_58 => ?_)
          · refine go_iconst (3) dX12_endOf_65 (by decide) ?_
            refine go_ireturn dX12_endOf_66 rfl rfl (Nat.le_of_ble_eq_true rfl) (Nat.le_of_ble_eq_true rfl) ?_
            exact ⟨by unfold ansI; simp_all, rfl⟩
          · refine go_iconst (2) dX12_endOf_61 (by decide) ?_
            refine go_goto 66 dX12_endOf_62 (by decide) ?_
            refine go_ireturn dX12_endOf_66 rfl rfl (Nat.le_of_ble_eq_true rfl) (Nat.le_of_ble_eq_true rfl) ?_
            exact ⟨by unfold ansI; simp_all, rfl⟩
      · refine go_iconst (1) dX12_endOf_35 (by decide) ?_
        refine go_ireturn dX12_endOf_36 rfl rfl (Nat.le_of_ble_eq_true rfl) (Nat.le_of_ble_eq_true rfl) ?_
        exact ⟨by unfold ansI; simp_all, rfl⟩
  · refine go_iconst (4) dX12_endOf_14 (by decide) ?_
    refine go_ireturn dX12_endOf_15 rfl rfl (Nat.le_of_ble_eq_true rfl) (Nat.le_of_ble_eq_true rfl) ?_
    exact ⟨by unfold ansI; simp_all, rfl⟩
set_option maxRecDepth 100000 in
theorem ev_X12_winsBy (U : TU) (lt : Int32) (B : TB2) (F A : TX) (se : AF) (R : TR) (O : TO) (V : TX) (al : AF) (dr : Int32) (j : Nat) (hj : j < 8) (s : Int32) : Ev MX12_winsBy [.ref 0, .int (nI j), .int s] (mwd U lt B F A se R O V al dr) (Ri (mwd U lt B F A se R O V al dr) (sixI 3 s (F.2 (5 * j + 1)))) := by
  refine ev_of bX12_winsBy [some (.ref 0), some (.int (nI j)), some (.int s)] (Nat.le_of_ble_eq_true rfl) rfl ?_
  refine go_bipush (8) dX12_winsBy_0 (by decide) ?_
  refine go_iload_n dX12_winsBy_2 rfl ?_
  refine go_iadd dX12_winsBy_3 ?_
  refine go_aload_n dX12_winsBy_4 rfl ?_
  refine go_getf fX12_28 dX12_winsBy_5 rfl rfl ?_
  refine go_iconst (5) dX12_winsBy_8 (by decide) ?_
  refine go_iload_n dX12_winsBy_9 rfl ?_
  refine go_imul dX12_winsBy_10 ?_
  refine go_iconst (1) dX12_winsBy_11 (by decide) ?_
  refine go_iadd dX12_winsBy_12 ?_
  rw [show (5 : Int32) * nI j + 1 = nI (5 * j + 1) from five j 1]
  refine go_iald dX12_winsBy_13 rfl (vp_in_nI (by omega) (by decide)) ?_
  simp only [nI_clamp (show 5 * j + 1 < 2 ^ 31 by omega)]
  refine go_isub dX12_winsBy_14 ?_
  refine go_iconst (0) dX12_winsBy_15 (by decide) ?_
  refine go_callSi (z := MX12_greater) [] dX12_winsBy_16 lX12_143 sX12_greater (ev_X12_greater _ _) rfl rfl rfl rfl rfl rfl ?_
  refine go_bipush (16) dX12_winsBy_19 (by decide) ?_
  refine go_callSi (z := MX12_lesser) [] dX12_winsBy_21 lX12_146 sX12_lesser (ev_X12_lesser _ _) rfl rfl rfl rfl rfl rfl ?_
  rw [clamp6]
  refine go_ireturn dX12_winsBy_24 rfl rfl (Nat.le_of_ble_eq_true rfl) (Nat.le_of_ble_eq_true rfl) ?_
  exact ⟨rfl, rfl⟩
set_option maxRecDepth 100000 in
theorem ev_X12_strongBehind (U : TU) (lt : Int32) (B : TB2) (F A : TX) (se : AF) (R : TR) (O : TO) (V : TX) (al : AF) (dr : Int32) (k s0 : Nat) (h9 : s0 ≤ 9) (hk : k ≤ s0) (h0 : se 0 = nI s0) (c : Int32) : Ev MX12_strongBehind [.ref 0, .int (nI k), .int c] (mwd U lt B F A se R O V al dr) (Ri (mwd U lt B F A se R O V al dr) (strI c (nI k) (se 0))) := by
  refine ev_of bX12_strongBehind [some (.ref 0), some (.int (nI k)), some (.int c)] (Nat.le_of_ble_eq_true rfl) rfl ?_
  refine go_iload_n dX12_strongBehind_0 rfl ?_
  refine go_iconst (3) dX12_strongBehind_1 (by decide) ?_
  refine go_icmp_ne 15 dX12_strongBehind_2 (by decide) (fun c_2 => ?_) (fun c_2 => ?_)
  · refine go_iload_n dX12_strongBehind_15 rfl ?_
    refine go_iconst (1) dX12_strongBehind_16 (by decide) ?_
    refine go_icmp_eq 25 dX12_strongBehind_17 (by decide) (fun c_17 => ?_) (fun c_17 => ?_)
    · refine go_iload_n dX12_strongBehind_25 rfl ?_
      refine go_iconst (1) dX12_strongBehind_26 (by decide) ?_
      refine go_iadd dX12_strongBehind_27 ?_
      refine go_aload_n dX12_strongBehind_28 rfl ?_
      refine go_getf fX12_34 dX12_strongBehind_29 rfl rfl ?_
      refine go_iconst (0) dX12_strongBehind_32 (by decide) ?_
      refine go_iald dX12_strongBehind_33 rfl (vp_in_nI (n := 0) (by decide) (by decide)) ?_
      rw [show se (0 : Int32).toNatClampNeg = nI s0 from h0]
      refine go_callSi (z := MX12_lesser) [] dX12_strongBehind_34 lX12_146 sX12_lesser (ev_X12_lesser _ _) rfl rfl rfl rfl rfl rfl ?_
      refine go_goto 41 dX12_strongBehind_37 (by decide) ?_
      refine go_ireturn dX12_strongBehind_41 rfl rfl (Nat.le_of_ble_eq_true rfl) (Nat.le_of_ble_eq_true rfl) ?_
      refine ⟨?_, rfl⟩
      rw [h0, ← str_eq h9 hk]
      simp_all
    · refine go_iload_n dX12_strongBehind_20 rfl ?_
      refine go_iconst (2) dX12_strongBehind_21 (by decide) ?_
      refine go_icmp_ne 40 dX12_strongBehind_22 (by decide) (fun c_22 => ?_) (fun c_22 => ?_)
      · refine go_iload_n dX12_strongBehind_40 rfl ?_
        refine go_ireturn dX12_strongBehind_41 rfl rfl (Nat.le_of_ble_eq_true rfl) (Nat.le_of_ble_eq_true rfl) ?_
        refine ⟨?_, rfl⟩
        rw [h0, ← str_eq h9 hk]
        simp_all
      · refine go_iload_n dX12_strongBehind_25 rfl ?_
        refine go_iconst (1) dX12_strongBehind_26 (by decide) ?_
        refine go_iadd dX12_strongBehind_27 ?_
        refine go_aload_n dX12_strongBehind_28 rfl ?_
        refine go_getf fX12_34 dX12_strongBehind_29 rfl rfl ?_
        refine go_iconst (0) dX12_strongBehind_32 (by decide) ?_
        refine go_iald dX12_strongBehind_33 rfl (vp_in_nI (n := 0) (by decide) (by decide)) ?_
        rw [show se (0 : Int32).toNatClampNeg = nI s0 from h0]
        refine go_callSi (z := MX12_lesser) [] dX12_strongBehind_34 lX12_146 sX12_lesser (ev_X12_lesser _ _) rfl rfl rfl rfl rfl rfl ?_
        refine go_goto 41 dX12_strongBehind_37 (by decide) ?_
        refine go_ireturn dX12_strongBehind_41 rfl rfl (Nat.le_of_ble_eq_true rfl) (Nat.le_of_ble_eq_true rfl) ?_
        refine ⟨?_, rfl⟩
        rw [h0, ← str_eq h9 hk]
        simp_all
  · refine go_iload_n dX12_strongBehind_5 rfl ?_
    refine go_iconst (1) dX12_strongBehind_6 (by decide) ?_
    refine go_isub dX12_strongBehind_7 ?_
    refine go_iconst (0) dX12_strongBehind_8 (by decide) ?_
    refine go_callSi (z := MX12_greater) [] dX12_strongBehind_9 lX12_143 sX12_greater (ev_X12_greater _ _) rfl rfl rfl rfl rfl rfl ?_
    refine go_goto 41 dX12_strongBehind_12 (by decide) ?_
    refine go_ireturn dX12_strongBehind_41 rfl rfl (Nat.le_of_ble_eq_true rfl) (Nat.le_of_ble_eq_true rfl) ?_
    refine ⟨?_, rfl⟩
    rw [h0, ← str_eq h9 hk]
    simp_all
set_option maxRecDepth 100000 in
theorem ev_X12_goes (U : TU) (lt : Int32) (B : TB2) (F A : TX) (se : AF) (R : TR) (O : TO) (V : TX) (al : AF) (dr : Int32) (hF : F.1 ≤ 8) (hA : AOK A) (s0 : Nat) (h9 : s0 ≤ 9) (h0 : se 0 = nI s0) : Ev MX12_goes [.ref 0] (mwd U lt B F A se R O V al dr) (fun v w => v = none ∧ ∃ R2 : TR, w = (mwd U lt B F A se R2 O V al dr) ∧ RI F A se R2) := by
  refine ev_of bX12_goes [some (.ref 0), none, none, none, none] (Nat.le_of_ble_eq_true rfl) rfl ?_
  have hA1 := hA.1
  obtain ⟨co, ch, st, wi⟩ := R
  refine go_iconst (0) dX12_goes_0 (by decide) ?_
  refine go_istore_n dX12_goes_1 (by decide) ?_
  refine go_aload_n dX12_goes_2 rfl ?_
  refine go_getf fX12_43 dX12_goes_3 rfl rfl ?_
  refine go_iconst (0) dX12_goes_6 (by decide) ?_
  refine go_aload_n dX12_goes_7 rfl ?_
  refine go_getf fX12_34 dX12_goes_8 rfl rfl ?_
  refine go_iconst (0) dX12_goes_11 (by decide) ?_
  refine go_iald dX12_goes_12 rfl (vp_in_nI (n := 0) (by decide) (by decide)) ?_
  refine go_iast dX12_goes_13 rfl (vp_in_nI (n := 0) (by decide) (by decide)) ?_
  refine go_aload_n dX12_goes_14 rfl ?_
  refine go_getf fX12_46 dX12_goes_15 rfl rfl ?_
  refine go_iconst (0) dX12_goes_18 (by decide) ?_
  refine go_iconst (0) dX12_goes_19 (by decide) ?_
  refine go_iast dX12_goes_20 rfl (vp_in_nI (n := 0) (by decide) (by decide)) ?_
  refine go_iconst (0) dX12_goes_21 (by decide) ?_
  refine go_istore_n dX12_goes_22 (by decide) ?_
  suffices loop : ∀ (d i m : Nat) (co ch st wi : Nat → Int32) (x3 x4 : Option Value), i + d = A.1 → m < 2 ^ 8 → (∀ f, f < 8 → m.testBit f = nmd (nmR A.2) i f) → (∀ t, t < i → co t = wC F.1 F.2 (nmR A.2) (se 0) (se 1) (se 2) t ∧ ch t = wX F.1 F.2 (nmR A.2) (se 0) (se 1) (se 2) t) → (∀ t, t ≤ i → st t = (wst F.1 F.2 (nmR A.2) (se 0) (se 1) (se 2) t).1 ∧ wi t = (wst F.1 F.2 (nmR A.2) (se 0) (se 1) (se 2) t).2) → Go X0 MX12_goes (fun v w => v = none ∧ ∃ R2 : TR, w = (mwd U lt B F A se R2 O V al dr) ∧ RI F A se R2) 21 0 0 23 [some (.ref 0), some (.int (nI m)), some (.int (nI i)), x3, x4] [] (mwd U lt B F A se (co, ch, st, wi) O V al dr) from loop A.1 0 0 co ch (upd st 0 (se 0)) (upd wi 0 0) _ _ (by omega) (by decide) (fun f hf => by simp [nmd]) (fun t h => absurd h (by omega)) (fun t h => by obtain rfl : t = 0 := Nat.le_zero.mp h; exact ⟨pk_us, pk_us⟩)
  intro d
  induction d with
  | zero =>
    intro i m co ch st wi x3 x4 hi hm8 hm h1 h2
    refine go_iload_n dX12_goes_23 rfl ?_
    refine go_aload_n dX12_goes_24 rfl ?_
    refine go_getf fX12_118 dX12_goes_25 rfl rfl ?_
    refine go_icmp_ge 201 dX12_goes_28 (by decide) (fun _ => ?_) (fun c_28 => absurd (nI_le (by omega) (by omega)) c_28)
    refine go_return dX12_goes_201 rfl (Nat.le_of_ble_eq_true rfl) (Nat.le_of_ble_eq_true rfl) ?_
    exact ⟨rfl, (co, ch, st, wi), rfl, fun t ht => h1 t (by omega), fun t ht => h2 t (by omega)⟩
  | succ d ih =>
    intro i m co ch st wi x3 x4 hi hm8 hm h1 h2
    obtain ⟨hn, hn8⟩ := hA.2 i (by omega)
    obtain ⟨hs1, hs2⟩ := h2 i (Nat.le_refl _)
    obtain ⟨k, hk, hs⟩ := sW_ok F.1 F.2 (nmR A.2) (se 1) (se 2) s0 h9 i
    rw [← h0] at hs
    refine go_iload_n dX12_goes_23 rfl ?_
    refine go_aload_n dX12_goes_24 rfl ?_
    refine go_getf fX12_118 dX12_goes_25 rfl rfl ?_
    refine go_icmp_ge 201 dX12_goes_28 (by decide) (fun c_28 => absurd c_28 (nI_ge (by omega) (by omega))) (fun _ => ?_)
    refine go_aload_n dX12_goes_31 rfl ?_
    refine go_getf fX12_31 dX12_goes_32 rfl rfl ?_
    refine go_iload_n dX12_goes_35 rfl ?_
    refine go_iald dX12_goes_36 rfl (vp_in_nI (by omega) (by decide)) ?_
    simp only [nI_clamp (show i < 2 ^ 31 by omega)]
    rw [hn]
    refine go_istore_n dX12_goes_37 (by decide) ?_
    refine go_aload_n dX12_goes_38 rfl ?_
    refine go_getf fX12_46 dX12_goes_39 rfl rfl ?_
    refine go_iload_n dX12_goes_42 rfl ?_
    refine go_iald dX12_goes_43 rfl (vp_in_nI (by omega) (by decide)) ?_
    simp only [nI_clamp (show i < 2 ^ 31 by omega)]
    rw [hs2]
    refine go_aload_n dX12_goes_44 rfl ?_
    refine go_getf fX12_34 dX12_goes_45 rfl rfl ?_
    refine go_iconst (1) dX12_goes_48 (by decide) ?_
    refine go_iald dX12_goes_49 rfl (vp_in_nI (n := 1) (by decide) (by decide)) ?_
    rw [show se (1 : Int32).toNatClampNeg = se 1 from rfl]
    refine go_cut2 (J := 74) (fun v => v = if (se 1 ≤ (wst F.1 F.2 (nmR A.2) (se 0) (se 1) (se 2) i).2 ∨ F.1 ≤ nmR A.2 i ∨ nmd (nmR A.2) i (nmR A.2 i) = true) then 1 else 0) (fun v_74 hv_74 => ?_) (fun kk_74 => ?_)
    case refine_2 =>
      refine go_icmp_ge 69 dX12_goes_50 (by decide) (fun c_50 => ?_) (fun c_50 => ?_)
      · refine go_iconst (1) dX12_goes_69 (by decide) ?_
        refine go_goto 74 dX12_goes_70 (by decide) ?_
        exact kk_74 _ (by
          first
          | rw [if_pos (Or.inl c_50)]
          | rw [if_pos (Or.inr (Or.inl (Nat.le_of_not_lt fun q => absurd c_58 (by rw [has_t q (by omega)]; decide))))]
          | rw [if_pos (Or.inr (Or.inr ((hm _ hn8).symm.trans (bit_f c_66))))]
          | rw [if_neg (fun q => q.elim c_50 (fun q => q.elim (fun q => c_58 (has_f q (by omega))) (fun q => absurd ((hm _ hn8).trans q) (by rw [bit_t c_66]; decide))))])
      · refine go_aload_n dX12_goes_53 rfl ?_
        refine go_iload_n dX12_goes_54 rfl ?_
        refine go_callVsi (z := MX12_isFelon) dX12_goes_55 lX12_132 sX12_isFelon (ev_X12_isFelon U lt B F A se (co, ch, st, wi) O V al dr hF (nI (nmR A.2 i))) rfl rfl rfl ⟨_, _, rfl⟩ rfl rfl ?_
        refine go_if_eq 69 dX12_goes_58 (by decide) (fun c_58 => ?_) (fun c_58 => ?_)
        · refine go_iconst (1) dX12_goes_69 (by decide) ?_
          refine go_goto 74 dX12_goes_70 (by decide) ?_
          exact kk_74 _ (by
            first
            | rw [if_pos (Or.inl c_50)]
            | rw [if_pos (Or.inr (Or.inl (Nat.le_of_not_lt fun q => absurd c_58 (by rw [has_t q (by omega)]; decide))))]
            | rw [if_pos (Or.inr (Or.inr ((hm _ hn8).symm.trans (bit_f c_66))))]
            | rw [if_neg (fun q => q.elim c_50 (fun q => q.elim (fun q => c_58 (has_f q (by omega))) (fun q => absurd ((hm _ hn8).trans q) (by rw [bit_t c_66]; decide))))])
        · refine go_iload_n dX12_goes_61 rfl ?_
          refine go_iload_n dX12_goes_62 rfl ?_
          refine go_callSi (z := MX12_isIn) [] dX12_goes_63 lX12_149 sX12_isIn (ev_X12_isIn m (nmR A.2 i) (by omega) (by omega)) rfl rfl rfl rfl rfl rfl ?_
          refine go_if_eq 73 dX12_goes_66 (by decide) (fun c_66 => ?_) (fun c_66 => ?_)
          · refine go_iconst (0) dX12_goes_73 (by decide) ?_
            exact kk_74 _ (by
              first
              | rw [if_pos (Or.inl c_50)]
              | rw [if_pos (Or.inr (Or.inl (Nat.le_of_not_lt fun q => absurd c_58 (by rw [has_t q (by omega)]; decide))))]
              | rw [if_pos (Or.inr (Or.inr ((hm _ hn8).symm.trans (bit_f c_66))))]
              | rw [if_neg (fun q => q.elim c_50 (fun q => q.elim (fun q => c_58 (has_f q (by omega))) (fun q => absurd ((hm _ hn8).trans q) (by rw [bit_t c_66]; decide))))])
          · refine go_iconst (1) dX12_goes_69 (by decide) ?_
            refine go_goto 74 dX12_goes_70 (by decide) ?_
            exact kk_74 _ (by
              first
              | rw [if_pos (Or.inl c_50)]
              | rw [if_pos (Or.inr (Or.inl (Nat.le_of_not_lt fun q => absurd c_58 (by rw [has_t q (by omega)]; decide))))]
              | rw [if_pos (Or.inr (Or.inr ((hm _ hn8).symm.trans (bit_f c_66))))]
              | rw [if_neg (fun q => q.elim c_50 (fun q => q.elim (fun q => c_58 (has_f q (by omega))) (fun q => absurd ((hm _ hn8).trans q) (by rw [bit_t c_66]; decide))))])
    refine go_istore dX12_goes_74 (by decide) ?_
    refine go_iload_n dX12_goes_76 rfl ?_
    refine go_iconst (1) dX12_goes_77 (by decide) ?_
    refine go_iload_n dX12_goes_78 rfl ?_
    refine go_ishl dX12_goes_79 ?_
    rw [sh1 _ (by omega)]
    refine go_ior dX12_goes_80 ?_
    rw [fa_or]
    refine go_istore_n dX12_goes_81 (by decide) ?_
    refine go_aload_n dX12_goes_82 rfl ?_
    refine go_getf fX12_37 dX12_goes_83 rfl rfl ?_
    refine go_iload_n dX12_goes_86 rfl ?_
    refine go_iload dX12_goes_87 rfl ?_
    refine go_cut1 (J := 101) (fun v => v = wC F.1 F.2 (nmR A.2) (se 0) (se 1) (se 2) i) (fun v_101 hv_101 => ?_) (fun kk_101 => ?_)
    case refine_2 =>
      refine go_if_eq 96 dX12_goes_89 (by decide) (fun c_89 => ?_) (fun c_89 => ?_)
      · refine go_aload_n dX12_goes_96 rfl ?_
        refine go_iload_n dX12_goes_97 rfl ?_
        refine go_callVsi (z := MX12_endOf) dX12_goes_98 lX12_153 sX12_endOf (ev_X12_endOf U lt B F A se (co, ch, st, wi) O V al dr (nmR A.2 i) hn8) rfl rfl rfl ⟨_, _, rfl⟩ rfl rfl ?_
        exact kk_101 _ (by
          have e : wC F.1 F.2 (nmR A.2) (se 0) (se 1) (se 2) i = if (se 1 ≤ (wst F.1 F.2 (nmR A.2) (se 0) (se 1) (se 2) i).2 ∨ F.1 ≤ nmR A.2 i ∨ nmd (nmR A.2) i (nmR A.2 i) = true) then 0 else ansI (F.2 (5 * nmR A.2 i)) (F.2 (5 * nmR A.2 i + 3)) (F.2 (5 * nmR A.2 i + 2)) (se 2) := rfl
          rw [e]
          by_cases q : (se 1 ≤ (wst F.1 F.2 (nmR A.2) (se 0) (se 1) (se 2) i).2 ∨ F.1 ≤ nmR A.2 i ∨ nmd (nmR A.2) i (nmR A.2 i) = true)
          · rw [if_pos q] at hv_74
            refine Eq.trans ?_ (if_pos q).symm
            first
            | rfl
            | exact absurd (hv_74.symm.trans c_89) (by decide)
          · rw [if_neg q] at hv_74
            refine Eq.trans ?_ (if_neg q).symm
            first
            | exact absurd hv_74 c_89
            | rfl)
      · refine go_iconst (0) dX12_goes_92 (by decide) ?_
        refine go_goto 101 dX12_goes_93 (by decide) ?_
        exact kk_101 _ (by
          have e : wC F.1 F.2 (nmR A.2) (se 0) (se 1) (se 2) i = if (se 1 ≤ (wst F.1 F.2 (nmR A.2) (se 0) (se 1) (se 2) i).2 ∨ F.1 ≤ nmR A.2 i ∨ nmd (nmR A.2) i (nmR A.2 i) = true) then 0 else ansI (F.2 (5 * nmR A.2 i)) (F.2 (5 * nmR A.2 i + 3)) (F.2 (5 * nmR A.2 i + 2)) (se 2) := rfl
          rw [e]
          by_cases q : (se 1 ≤ (wst F.1 F.2 (nmR A.2) (se 0) (se 1) (se 2) i).2 ∨ F.1 ≤ nmR A.2 i ∨ nmd (nmR A.2) i (nmR A.2 i) = true)
          · rw [if_pos q] at hv_74
            refine Eq.trans ?_ (if_pos q).symm
            first
            | rfl
            | exact absurd (hv_74.symm.trans c_89) (by decide)
          · rw [if_neg q] at hv_74
            refine Eq.trans ?_ (if_neg q).symm
            first
            | exact absurd hv_74 c_89
            | rfl)
    refine go_iast dX12_goes_101 rfl (vp_in_nI (by omega) (by decide)) ?_
    simp only [nI_clamp (show i < 2 ^ 31 by omega)]
    rw [hv_101]
    refine go_aload_n dX12_goes_102 rfl ?_
    refine go_getf fX12_40 dX12_goes_103 rfl rfl ?_
    refine go_iload_n dX12_goes_106 rfl ?_
    refine go_aload_n dX12_goes_107 rfl ?_
    refine go_getf fX12_37 dX12_goes_108 rfl rfl ?_
    refine go_iload_n dX12_goes_111 rfl ?_
    refine go_iald dX12_goes_112 rfl (vp_in_nI (by omega) (by decide)) ?_
    simp only [nI_clamp (show i < 2 ^ 31 by omega)]
    rw [pk_us]
    refine go_iconst (3) dX12_goes_113 (by decide) ?_
    refine go_cut2 (J := 133) (fun v => v = wX F.1 F.2 (nmR A.2) (se 0) (se 1) (se 2) i) (fun v_133 hv_133 => ?_) (fun kk_133 => ?_)
    case refine_2 =>
      refine go_icmp_ne 131 dX12_goes_114 (by decide) (fun c_114 => ?_) (fun c_114 => ?_)
      · refine go_bipush (16) dX12_goes_131 (by decide) ?_
        exact kk_133 _ (by
          unfold wX
          first
          | rw [six_n c_114]
          | rw [c_114])
      · refine go_aload_n dX12_goes_117 rfl ?_
        refine go_iload_n dX12_goes_118 rfl ?_
        refine go_aload_n dX12_goes_119 rfl ?_
        refine go_getf fX12_43 dX12_goes_120 rfl rfl ?_
        refine go_iload_n dX12_goes_123 rfl ?_
        refine go_iald dX12_goes_124 rfl (vp_in_nI (by omega) (by decide)) ?_
        simp only [nI_clamp (show i < 2 ^ 31 by omega)]
        rw [hs1]
        refine go_callVsi (z := MX12_winsBy) dX12_goes_125 lX12_156 sX12_winsBy (ev_X12_winsBy U lt B F A se ((upd co i (wC F.1 F.2 (nmR A.2) (se 0) (se 1) (se 2) i)), ch, st, wi) O V al dr (nmR A.2 i) hn8 _) rfl rfl rfl ⟨_, _, rfl⟩ rfl rfl ?_
        refine go_goto 133 dX12_goes_128 (by decide) ?_
        exact kk_133 _ (by
          unfold wX
          first
          | rw [six_n c_114]
          | rw [c_114])
    refine go_iast dX12_goes_133 rfl (vp_in_nI (by omega) (by decide)) ?_
    simp only [nI_clamp (show i < 2 ^ 31 by omega)]
    rw [hv_133]
    refine go_aload_n dX12_goes_134 rfl ?_
    refine go_getf fX12_43 dX12_goes_135 rfl rfl ?_
    refine go_iload_n dX12_goes_138 rfl ?_
    refine go_iconst (1) dX12_goes_139 (by decide) ?_
    refine go_iadd dX12_goes_140 ?_
    rw [nI_1]
    refine go_aload_n dX12_goes_141 rfl ?_
    refine go_aload_n dX12_goes_142 rfl ?_
    refine go_getf fX12_43 dX12_goes_143 rfl rfl ?_
    refine go_iload_n dX12_goes_146 rfl ?_
    refine go_iald dX12_goes_147 rfl (vp_in_nI (by omega) (by decide)) ?_
    simp only [nI_clamp (show i < 2 ^ 31 by omega)]
    rw [hs1, hs]
    refine go_aload_n dX12_goes_148 rfl ?_
    refine go_getf fX12_37 dX12_goes_149 rfl rfl ?_
    refine go_iload_n dX12_goes_152 rfl ?_
    refine go_iald dX12_goes_153 rfl (vp_in_nI (by omega) (by decide)) ?_
    simp only [nI_clamp (show i < 2 ^ 31 by omega)]
    rw [pk_us]
    refine go_callVsi (z := MX12_strongBehind) dX12_goes_154 lX12_159 sX12_strongBehind (ev_X12_strongBehind U lt B F A se ((upd co i (wC F.1 F.2 (nmR A.2) (se 0) (se 1) (se 2) i)), (upd ch i (wX F.1 F.2 (nmR A.2) (se 0) (se 1) (se 2) i)), st, wi) O V al dr k s0 h9 hk h0 _) rfl rfl rfl ⟨_, _, rfl⟩ rfl rfl ?_
    refine go_iast dX12_goes_157 rfl (vp_in_nI (by omega) (by decide)) ?_
    simp only [nI_clamp (show i + 1 < 2 ^ 31 by omega)]
    rw [← hs]
    refine go_aload_n dX12_goes_158 rfl ?_
    refine go_getf fX12_46 dX12_goes_159 rfl rfl ?_
    refine go_iload_n dX12_goes_162 rfl ?_
    refine go_iconst (1) dX12_goes_163 (by decide) ?_
    refine go_iadd dX12_goes_164 ?_
    rw [nI_1]
    refine go_aload_n dX12_goes_165 rfl ?_
    refine go_getf fX12_46 dX12_goes_166 rfl rfl ?_
    refine go_iload_n dX12_goes_169 rfl ?_
    refine go_iald dX12_goes_170 rfl (vp_in_nI (by omega) (by decide)) ?_
    simp only [nI_clamp (show i < 2 ^ 31 by omega)]
    rw [hs2]
    refine go_aload_n dX12_goes_171 rfl ?_
    refine go_getf fX12_37 dX12_goes_172 rfl rfl ?_
    refine go_iload_n dX12_goes_175 rfl ?_
    refine go_iald dX12_goes_176 rfl (vp_in_nI (by omega) (by decide)) ?_
    simp only [nI_clamp (show i < 2 ^ 31 by omega)]
    rw [pk_us]
    refine go_i2l dX12_goes_177 ?_
    refine go_lconst 1 dX12_goes_178 (by decide) ?_
    refine go_ldc2_w dX12_goes_179 kX12_81 ?_
    refine go_callSi (z := MX12_in) [] dX12_goes_182 lX12_73 sX12_in (ev_X12_in (wC F.1 F.2 (nmR A.2) (se 0) (se 1) (se 2) i) (1) (3) _ _ rfl rfl) rfl rfl rfl rfl rfl rfl ?_
    refine go_cut1 (J := 193) (fun v => v = winI (wC F.1 F.2 (nmR A.2) (se 0) (se 1) (se 2) i)) (fun v_193 hv_193 => ?_) (fun kk_193 => ?_)
    case refine_2 =>
      refine go_if_eq 192 dX12_goes_185 (by decide) (fun c_185 => ?_) (fun c_185 => ?_)
      · refine go_iconst (0) dX12_goes_192 (by decide) ?_
        exact kk_193 _ (by
          rw [← win_in]
          first
          | rw [if_pos (full_t2 c_185)]
          | rw [if_neg (full_t3 c_185)])
      · refine go_iconst (1) dX12_goes_188 (by decide) ?_
        refine go_goto 193 dX12_goes_189 (by decide) ?_
        exact kk_193 _ (by
          rw [← win_in]
          first
          | rw [if_pos (full_t2 c_185)]
          | rw [if_neg (full_t3 c_185)])
    refine go_iadd dX12_goes_193 ?_
    rw [hv_193]
    refine go_iast dX12_goes_194 rfl (vp_in_nI (by omega) (by decide)) ?_
    refine go_iincN (1) dX12_goes_195 rfl (by decide) (by decide) ?_
    refine go_goto 23 dX12_goes_198 (by decide) ?_
    rw [nI_1]
    simp only [nI_clamp (show i + 1 < 2 ^ 31 by omega)]
    refine ih (i + 1) (m ||| 2 ^ nmR A.2 i) (upd co i (wC F.1 F.2 (nmR A.2) (se 0) (se 1) (se 2) i)) (upd ch i (wX F.1 F.2 (nmR A.2) (se 0) (se 1) (se 2) i)) (upd st (i + 1) (wst F.1 F.2 (nmR A.2) (se 0) (se 1) (se 2) (i + 1)).1) (upd wi (i + 1) (wst F.1 F.2 (nmR A.2) (se 0) (se 1) (se 2) (i + 1)).2) _ _ (by omega) (Nat.or_lt_two_pow hm8 (Nat.pow_lt_pow_right (by decide) hn8)) (mk_s hm) (fun t ht => ?_) (fun t ht => ?_)
    · by_cases e : t = i
      · subst e; exact ⟨pk_us, pk_us⟩
      · rw [pk_un e, pk_un e]; exact h1 t (by omega)
    · by_cases e : t = i + 1
      · subst e; exact ⟨pk_us, pk_us⟩
      · rw [pk_un e, pk_un e]; exact h2 t (by omega)
theorem FInv.le {n : Nat} {b : Nat → Int32} {F : TX} (h : FInv n b F) (h47 : n ≤ 47) : F.1 ≤ 8 := by
  rw [h.1]
  exact gsz_le h47
theorem AInv.ok {n : Nat} {b : Nat → Int32} {A : TX} (h : AInv n b A) (h12 : n ≤ 12) : AOK A := by
  have h1 := nsz_le n b
  have h2 := h.1
  refine ⟨by omega, fun i hi => ?_⟩
  unfold nmR
  rw [h.2 i hi]
  exact let_in (nsz_ok (n := n) (by omega))
/-- the model's state within its bounds -/
def MOK (B : TB2) (se : AF) (n m s0 gl br : Nat) : Prop := n ≤ 47 ∧ m ≤ 12 ∧ B.2 0 = nI n ∧ B.2 1 = nI m ∧ s0 ≤ 9 ∧ gl ≤ 8 ∧ br ≤ 9 ∧ se 0 = nI s0 ∧ se 1 = nI gl ∧ se 2 = nI br
theorem MOK.hn {B : TB2} {se : AF} {n m s0 gl br : Nat} (h : MOK B se n m s0 gl br) : n ≤ 47 := h.1
theorem MOK.hm {B : TB2} {se : AF} {n m s0 gl br : Nat} (h : MOK B se n m s0 gl br) : m ≤ 12 := h.2.1
theorem MOK.ht {B : TB2} {se : AF} {n m s0 gl br : Nat} (h : MOK B se n m s0 gl br) : B.2 0 = nI n := h.2.2.1
theorem MOK.hu {B : TB2} {se : AF} {n m s0 gl br : Nat} (h : MOK B se n m s0 gl br) : B.2 1 = nI m := h.2.2.2.1
theorem MOK.h9 {B : TB2} {se : AF} {n m s0 gl br : Nat} (h : MOK B se n m s0 gl br) : s0 ≤ 9 := h.2.2.2.2.1
theorem MOK.h8 {B : TB2} {se : AF} {n m s0 gl br : Nat} (h : MOK B se n m s0 gl br) : gl ≤ 8 := h.2.2.2.2.2.1
theorem MOK.hb {B : TB2} {se : AF} {n m s0 gl br : Nat} (h : MOK B se n m s0 gl br) : br ≤ 9 := h.2.2.2.2.2.2.1
theorem MOK.e0 {B : TB2} {se : AF} {n m s0 gl br : Nat} (h : MOK B se n m s0 gl br) : se 0 = nI s0 := h.2.2.2.2.2.2.2.1
theorem MOK.e1 {B : TB2} {se : AF} {n m s0 gl br : Nat} (h : MOK B se n m s0 gl br) : se 1 = nI gl := h.2.2.2.2.2.2.2.2.1
theorem MOK.e2 {B : TB2} {se : AF} {n m s0 gl br : Nat} (h : MOK B se n m s0 gl br) : se 2 = nI br := h.2.2.2.2.2.2.2.2.2
set_option maxRecDepth 100000 in
theorem ev_X12_find (U : TU) (lt : Int32) (B : TB2) (F A : TX) (se : AF) (R : TR) (O : TO) (V : TX) (al : AF) (dr : Int32) (n m s0 gl br : Nat) (ok : MOK B se n m s0 gl br) : Ev MX12_find [.ref 0] (mwd U lt B F A se R O V al dr) (fun v w => v = none ∧ ∃ (F2 A2 : TX) (R2 : TR), w = (mwd U lt B F2 A2 se R2 O V al dr) ∧ FInv n B.1 F2 ∧ AInv m (fun i => B.1 (48 + i)) A2 ∧ RI F2 A2 se R2) := by
  refine ev_of bX12_find [some (.ref 0)] (Nat.le_of_ble_eq_true rfl) rfl ?_
  refine go_aload_n dX12_find_0 rfl ?_
  refine go_callVs (z := MX12_readsFelons) dX12_find_1 lX12_125 sX12_readsFelons (ev_X12_readsFelons U lt B F A se R O V al dr n ok.hn ok.ht) rfl rfl rfl ⟨_, _, rfl⟩ rfl rfl (fun v w1 h => by obtain ⟨-, F2, rfl, -⟩ := h; rfl) (fun v_1 w_1 h_1 => ?_)
  obtain ⟨rfl, F2, rfl, g1⟩ := h_1
  refine go_pop dX12_find_4 rfl ?_
  refine go_aload_n dX12_find_5 rfl ?_
  refine go_callVs (z := MX12_readsNames) dX12_find_6 lX12_129 sX12_readsNames (ev_X12_readsNames U lt B F2 A se R O V al dr m ok.hm ok.hu) rfl rfl rfl ⟨_, _, rfl⟩ rfl rfl (fun v w1 h => by obtain ⟨-, F2, rfl, -⟩ := h; rfl) (fun v_6 w_6 h_6 => ?_)
  obtain ⟨rfl, A2, rfl, g2⟩ := h_6
  refine go_pop dX12_find_9 rfl ?_
  refine go_aload_n dX12_find_10 rfl ?_
  refine go_callVs (z := MX12_goes) dX12_find_11 lX12_162 sX12_goes (ev_X12_goes U lt B F2 A2 se R O V al dr (g1.le ok.hn) (g2.ok ok.hm) s0 ok.h9 ok.e0) rfl rfl rfl ⟨_, _, rfl⟩ rfl rfl (fun v w1 h => by obtain ⟨-, F2, rfl, -⟩ := h; rfl) (fun v_11 w_11 h_11 => ?_)
  obtain ⟨rfl, R2, rfl, g3⟩ := h_11
  refine go_return dX12_find_14 rfl (Nat.le_of_ble_eq_true rfl) (Nat.le_of_ble_eq_true rfl) ?_
  exact ⟨rfl, F2, A2, R2, rfl, g1, g2, g3⟩
