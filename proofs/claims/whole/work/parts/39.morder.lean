theorem in_w (c : Int32) : (if c < 1 ∨ 3 < c then (0 : Int32) else 1) = 0 ↔ winI c = 0 := by rw [win_in]
theorem vp_us {f : Nat → Int64} {k : Nat} {x : Int64} : vp_updL f k x k = x := if_pos rfl
theorem vp_un {f : Nat → Int64} {k j : Nat} {x : Int64} (h : j ≠ k) : vp_updL f k x j = f j := if_neg h
set_option maxRecDepth 100000 in
theorem ev_X12_adds (U : TU) (lt : Int32) (B : TB2) (F A : TX) (se : AF) (R : TR) (O : TO) (V : TX) (al : AF) (dr : Int32) (n f : Nat) (hn : n < 9) (hf : f < 8) (k s0 : Nat) (h9 : s0 ≤ 9) (hk : k ≤ s0) (h0 : se 0 = nI s0) (hs : O.2.1 n = nI k) : Ev MX12_adds [.ref 0, .int (nI n), .int (nI f)] (mwd U lt B F A se R O V al dr) (Rw none (mwd U lt B F A se R (O.1, (upd O.2.1 (n + 1) (strI (ansI (F.2 (5 * f)) (F.2 (5 * f + 3)) (F.2 (5 * f + 2)) (se 2)) (O.2.1 n) (se 0))), (upd O.2.2.1 (n + 1) (O.2.2.1 n + winI (ansI (F.2 (5 * f)) (F.2 (5 * f + 3)) (F.2 (5 * f + 2)) (se 2)))), (vp_updL O.2.2.2.1 (n + 1) (if (ansI (F.2 (5 * f)) (F.2 (5 * f + 3)) (F.2 (5 * f + 2)) (se 2)) = 3 then O.2.2.2.1 n / 16 * (sixI 3 (O.2.1 n) (F.2 (5 * f + 1))).toInt64 else O.2.2.2.1 n)), O.2.2.2.2.1, O.2.2.2.2.2.1, O.2.2.2.2.2.2) V al dr)) := by
  refine ev_of bX12_adds [some (.ref 0), some (.int (nI n)), some (.int (nI f)), none] (Nat.le_of_ble_eq_true rfl) rfl ?_
  refine go_aload_n dX12_adds_0 rfl ?_
  refine go_iload_n dX12_adds_1 rfl ?_
  refine go_callVsi (z := MX12_endOf) dX12_adds_2 lX12_153 sX12_endOf (ev_X12_endOf U lt B F A se R O V al dr f hf) rfl rfl rfl ⟨_, _, rfl⟩ rfl rfl ?_
  refine go_istore_n dX12_adds_5 (by decide) ?_
  refine go_aload_n dX12_adds_6 rfl ?_
  refine go_getf fX12_52 dX12_adds_7 rfl rfl ?_
  refine go_iload_n dX12_adds_10 rfl ?_
  refine go_iconst (1) dX12_adds_11 (by decide) ?_
  refine go_iadd dX12_adds_12 ?_
  rw [nI_1]
  refine go_aload_n dX12_adds_13 rfl ?_
  refine go_aload_n dX12_adds_14 rfl ?_
  refine go_getf fX12_52 dX12_adds_15 rfl rfl ?_
  refine go_iload_n dX12_adds_18 rfl ?_
  refine go_iald dX12_adds_19 rfl (vp_in_nI (by omega) (by decide)) ?_
  simp only [nI_clamp (show n < 2 ^ 31 by omega)]
  rw [hs]
  refine go_iload_n dX12_adds_20 rfl ?_
  refine go_callVsi (z := MX12_strongBehind) dX12_adds_21 lX12_159 sX12_strongBehind (ev_X12_strongBehind U lt B F A se R O V al dr k s0 h9 hk h0 _) rfl rfl rfl ⟨_, _, rfl⟩ rfl rfl ?_
  refine go_iast dX12_adds_24 rfl (vp_in_nI (by omega) (by decide)) ?_
  simp only [nI_clamp (show n + 1 < 2 ^ 31 by omega)]
  rw [← hs]
  refine go_aload_n dX12_adds_25 rfl ?_
  refine go_getf fX12_55 dX12_adds_26 rfl rfl ?_
  refine go_iload_n dX12_adds_29 rfl ?_
  refine go_iconst (1) dX12_adds_30 (by decide) ?_
  refine go_iadd dX12_adds_31 ?_
  rw [nI_1]
  refine go_aload_n dX12_adds_32 rfl ?_
  refine go_getf fX12_55 dX12_adds_33 rfl rfl ?_
  refine go_iload_n dX12_adds_36 rfl ?_
  refine go_iald dX12_adds_37 rfl (vp_in_nI (by omega) (by decide)) ?_
  simp only [nI_clamp (show n < 2 ^ 31 by omega)]
  refine go_iload_n dX12_adds_38 rfl ?_
  refine go_i2l dX12_adds_39 ?_
  refine go_lconst 1 dX12_adds_40 (by decide) ?_
  refine go_ldc2_w dX12_adds_41 kX12_81 ?_
  refine go_callSi (z := MX12_in) [] dX12_adds_44 lX12_73 sX12_in (ev_X12_in ((ansI (F.2 (5 * f)) (F.2 (5 * f + 3)) (F.2 (5 * f + 2)) (se 2))) (1) (3) _ _ rfl rfl) rfl rfl rfl rfl rfl rfl ?_
  refine go_cut1 (J := 55) (fun v => v = winI (ansI (F.2 (5 * f)) (F.2 (5 * f + 3)) (F.2 (5 * f + 2)) (se 2))) (fun v_55 hv_55 => ?_) (fun kk_55 => ?_)
  case refine_2 =>
    refine go_if_eq 54 dX12_adds_47 (by decide) (fun c_47 => ?_) (fun c_47 => ?_)
    · refine go_iconst (0) dX12_adds_54 (by decide) ?_
      exact kk_55 _ (by rw [← win_in]; first | exact (if_pos (full_t2 c_47)).symm | exact (if_neg (full_t3 c_47)).symm)
    · refine go_iconst (1) dX12_adds_50 (by decide) ?_
      refine go_goto 55 dX12_adds_51 (by decide) ?_
      exact kk_55 _ (by rw [← win_in]; first | exact (if_pos (full_t2 c_47)).symm | exact (if_neg (full_t3 c_47)).symm)
  refine go_iadd dX12_adds_55 ?_
  rw [hv_55]
  refine go_iast dX12_adds_56 rfl (vp_in_nI (by omega) (by decide)) ?_
  simp only [nI_clamp (show n + 1 < 2 ^ 31 by omega)]
  refine go_aload_n dX12_adds_57 rfl ?_
  refine go_getf fX12_58 dX12_adds_58 rfl rfl ?_
  refine go_iload_n dX12_adds_61 rfl ?_
  refine go_iconst (1) dX12_adds_62 (by decide) ?_
  refine go_iadd dX12_adds_63 ?_
  rw [nI_1]
  refine go_iload_n dX12_adds_64 rfl ?_
  refine go_iconst (3) dX12_adds_65 (by decide) ?_
  refine go_icmp_ne 95 dX12_adds_66 (by decide) (fun c_66 => ?_) (fun c_66 => ?_)
  · refine go_aload_n dX12_adds_95 rfl ?_
    refine go_getf fX12_58 dX12_adds_96 rfl rfl ?_
    refine go_iload_n dX12_adds_99 rfl ?_
    refine go_lald dX12_adds_100 rfl (vp_in_nI (by omega) (by decide)) ?_
    try simp only [nI_clamp (show n < 2 ^ 31 by omega)]
    refine go_last dX12_adds_101 rfl (vp_in_nI (by omega) (by decide)) ?_
    refine go_return dX12_adds_102 rfl (Nat.le_of_ble_eq_true rfl) (Nat.le_of_ble_eq_true rfl) ?_
    refine ⟨rfl, ?_⟩
    simp only [nI_clamp (show n + 1 < 2 ^ 31 by omega)]
    first
    | (rw [if_pos c_66]; rfl)
    | (rw [if_neg c_66]; rfl)
  · refine go_aload_n dX12_adds_69 rfl ?_
    refine go_getf fX12_58 dX12_adds_70 rfl rfl ?_
    refine go_iload_n dX12_adds_73 rfl ?_
    refine go_lald dX12_adds_74 rfl (vp_in_nI (by omega) (by decide)) ?_
    simp only [nI_clamp (show n < 2 ^ 31 by omega)]
    refine go_ldc2_w dX12_adds_75 kX12_204 ?_
    refine go_ldiv dX12_adds_78 (by decide) ?_
    refine go_aload_n dX12_adds_79 rfl ?_
    refine go_iload_n dX12_adds_80 rfl ?_
    refine go_aload_n dX12_adds_81 rfl ?_
    refine go_getf fX12_52 dX12_adds_82 rfl rfl ?_
    refine go_iload_n dX12_adds_85 rfl ?_
    refine go_iald dX12_adds_86 rfl (vp_in_nI (by omega) (by decide)) ?_
    simp only [nI_clamp (show n < 2 ^ 31 by omega)]
    rw [pk_un (show n ≠ n + 1 by omega)]
    refine go_callVsi (z := MX12_winsBy) dX12_adds_87 lX12_156 sX12_winsBy (ev_X12_winsBy U lt B F A se R (O.1, (upd O.2.1 (n + 1) (strI (ansI (F.2 (5 * f)) (F.2 (5 * f + 3)) (F.2 (5 * f + 2)) (se 2)) (O.2.1 n) (se 0))), (upd O.2.2.1 (n + 1) (O.2.2.1 n + winI (ansI (F.2 (5 * f)) (F.2 (5 * f + 3)) (F.2 (5 * f + 2)) (se 2)))), O.2.2.2.1, O.2.2.2.2.1, O.2.2.2.2.2.1, O.2.2.2.2.2.2) V al dr f hf _) rfl rfl rfl ⟨_, _, rfl⟩ rfl rfl ?_
    refine go_i2l dX12_adds_90 ?_
    refine go_lmul dX12_adds_91 ?_
    refine go_goto 101 dX12_adds_92 (by decide) ?_
    try simp only [nI_clamp (show n < 2 ^ 31 by omega)]
    refine go_last dX12_adds_101 rfl (vp_in_nI (by omega) (by decide)) ?_
    refine go_return dX12_adds_102 rfl (Nat.le_of_ble_eq_true rfl) (Nat.le_of_ble_eq_true rfl) ?_
    refine ⟨rfl, ?_⟩
    simp only [nI_clamp (show n + 1 < 2 ^ 31 by omega)]
    first
    | (rw [if_pos c_66]; rfl)
    | (rw [if_neg c_66]; rfl)
set_option maxRecDepth 100000 in
theorem ev_X12_keeps (U : TU) (lt : Int32) (B : TB2) (F A : TX) (se : AF) (R : TR) (O : TO) (V : TX) (al : AF) (dr : Int32) (n : Nat) (hn : n ≤ 8) : Ev MX12_keeps [.ref 0, .int (nI n)] (mwd U lt B F A se R O V al dr) (fun v w => v = none ∧ ∃ br2 : AF, w = (mwd U lt B F A se R (O.1, O.2.1, O.2.2.1, O.2.2.2.1, br2, (nI n), (O.2.2.2.1 n)) V al dr) ∧ ∀ i, i < n → br2 i = O.1 i) := by
  refine ev_of bX12_keeps [some (.ref 0), some (.int (nI n)), none] (Nat.le_of_ble_eq_true rfl) rfl ?_
  refine go_aload_n dX12_keeps_0 rfl ?_
  refine go_aload_n dX12_keeps_1 rfl ?_
  refine go_getf fX12_58 dX12_keeps_2 rfl rfl ?_
  refine go_iload_n dX12_keeps_5 rfl ?_
  refine go_lald dX12_keeps_6 rfl (vp_in_nI (by omega) (by decide)) ?_
  simp only [nI_clamp (show n < 2 ^ 31 by omega)]
  refine go_putf fX12_206 dX12_keeps_7 rfl (fun _ _ _ h => by cases h; rfl) (fun _ => rfl) (fun _ => rfl) (Nat.le_of_ble_eq_true rfl) ?_
  refine go_aload_n dX12_keeps_10 rfl ?_
  refine go_iload_n dX12_keeps_11 rfl ?_
  refine go_putf fX12_210 dX12_keeps_12 rfl (fun _ _ _ h => by cases h; rfl) (fun _ => rfl) (fun _ => rfl) (Nat.le_of_ble_eq_true rfl) ?_
  refine go_iconst (0) dX12_keeps_15 (by decide) ?_
  refine go_istore_n dX12_keeps_16 (by decide) ?_
  suffices loop : ∀ (d i : Nat) (br : AF), i + d = n → (∀ j, j < i → br j = O.1 j) → Go X0 MX12_keeps (fun v w => v = none ∧ ∃ br2 : AF, w = (mwd U lt B F A se R (O.1, O.2.1, O.2.2.1, O.2.2.2.1, br2, (nI n), (O.2.2.2.1 n)) V al dr) ∧ ∀ i, i < n → br2 i = O.1 i) 21 0 0 17 [some (.ref 0), some (.int (nI n)), some (.int (nI i))] [] (mwd U lt B F A se R (O.1, O.2.1, O.2.2.1, O.2.2.2.1, br, (nI n), (O.2.2.2.1 n)) V al dr) from loop n 0 O.2.2.2.2.1 (by omega) (fun j h => absurd h (by omega))
  intro d
  induction d with
  | zero =>
    intro i br hi hv
    obtain rfl : i = n := by omega
    refine go_iload_n dX12_keeps_17 rfl ?_
    refine go_iload_n dX12_keeps_18 rfl ?_
    refine go_icmp_ge 40 dX12_keeps_19 (by decide) (fun _ => ?_) (fun c_19 => absurd (Int32.le_refl _) c_19)
    refine go_return dX12_keeps_40 rfl (Nat.le_of_ble_eq_true rfl) (Nat.le_of_ble_eq_true rfl) ?_
    exact ⟨rfl, br, rfl, hv⟩
  | succ d ih =>
    intro i br hi hv
    refine go_iload_n dX12_keeps_17 rfl ?_
    refine go_iload_n dX12_keeps_18 rfl ?_
    refine go_icmp_ge 40 dX12_keeps_19 (by decide) (fun c_19 => absurd c_19 (nI_ge (by omega) (by omega))) (fun _ => ?_)
    refine go_aload_n dX12_keeps_22 rfl ?_
    refine go_getf fX12_62 dX12_keeps_23 rfl rfl ?_
    refine go_iload_n dX12_keeps_26 rfl ?_
    refine go_aload_n dX12_keeps_27 rfl ?_
    refine go_getf fX12_49 dX12_keeps_28 rfl rfl ?_
    refine go_iload_n dX12_keeps_31 rfl ?_
    refine go_iald dX12_keeps_32 rfl (vp_in_nI (by omega) (by decide)) ?_
    refine go_iast dX12_keeps_33 rfl (vp_in_nI (by omega) (by decide)) ?_
    refine go_iincN (1) dX12_keeps_34 rfl (by decide) (by decide) ?_
    refine go_goto 17 dX12_keeps_37 (by decide) ?_
    rw [nI_1]
    simp only [nI_clamp (show i < 2 ^ 31 by omega)]
    exact ih (i + 1) (upd br i (O.1 i)) (by omega) (fun j hj => by
      by_cases e : j = i
      · subst e; exact pk_us
      · rw [pk_un e]; exact hv j (by omega))
set_option maxRecDepth 100000 in
theorem ev_X12_orderBy (U : TU) (lt : Int32) (B : TB2) (F A : TX) (se : AF) (R : TR) (O : TO) (V : TX) (al : AF) (dr : Int32) (x : Int32) (hx : x = -1 ∨ ¬ x < 0 ∧ x < 8) : Ev MX12_orderBy [.ref 0, .int x] (mwd U lt B F A se R O V al dr) (Ri (mwd U lt B F A se R O V al dr) (if x = -1 ∨ O.2.2.2.2.2.1 = -1 then O.2.2.2.2.2.1 else if O.2.2.2.2.2.1 ≤ x then -1 else O.2.2.2.2.1 x.toNatClampNeg)) := by
  refine ev_of bX12_orderBy [some (.ref 0), some (.int x)] (Nat.le_of_ble_eq_true rfl) rfl ?_
  refine go_iload_n dX12_orderBy_0 rfl ?_
  refine go_iconst (-1) dX12_orderBy_1 (by decide) ?_
  refine go_icmp_eq 13 dX12_orderBy_2 (by decide) (fun c_2 => ?_) (fun c_2 => ?_)
  · refine go_aload_n dX12_orderBy_13 rfl ?_
    refine go_getf fX12_210 dX12_orderBy_14 rfl rfl ?_
    refine go_goto 38 dX12_orderBy_17 (by decide) ?_
    refine go_ireturn dX12_orderBy_38 rfl rfl (Nat.le_of_ble_eq_true rfl) (Nat.le_of_ble_eq_true rfl) ?_
    first
    | exact ⟨by rw [if_pos (Or.inl c_2)], rfl⟩
    | exact ⟨by rw [if_pos (Or.inr c_10)], rfl⟩
    | exact ⟨by rw [if_neg (fun q => q.elim c_2 c_10), if_pos c_25], rfl⟩
    | exact ⟨by rw [if_neg (fun q => q.elim c_2 c_10), if_neg c_25], rfl⟩
  · refine go_aload_n dX12_orderBy_5 rfl ?_
    refine go_getf fX12_210 dX12_orderBy_6 rfl rfl ?_
    refine go_iconst (-1) dX12_orderBy_9 (by decide) ?_
    refine go_icmp_ne 20 dX12_orderBy_10 (by decide) (fun c_10 => ?_) (fun c_10 => ?_)
    · refine go_iload_n dX12_orderBy_20 rfl ?_
      refine go_aload_n dX12_orderBy_21 rfl ?_
      refine go_getf fX12_210 dX12_orderBy_22 rfl rfl ?_
      refine go_icmp_ge 37 dX12_orderBy_25 (by decide) (fun c_25 => ?_) (fun c_25 => ?_)
      · refine go_iconst (-1) dX12_orderBy_37 (by decide) ?_
        refine go_ireturn dX12_orderBy_38 rfl rfl (Nat.le_of_ble_eq_true rfl) (Nat.le_of_ble_eq_true rfl) ?_
        first
        | exact ⟨by rw [if_pos (Or.inl c_2)], rfl⟩
        | exact ⟨by rw [if_pos (Or.inr c_10)], rfl⟩
        | exact ⟨by rw [if_neg (fun q => q.elim c_2 c_10), if_pos c_25], rfl⟩
        | exact ⟨by rw [if_neg (fun q => q.elim c_2 c_10), if_neg c_25], rfl⟩
      · refine go_aload_n dX12_orderBy_28 rfl ?_
        refine go_getf fX12_62 dX12_orderBy_29 rfl rfl ?_
        refine go_iload_n dX12_orderBy_32 rfl ?_
        refine go_iald dX12_orderBy_33 rfl (vin_of (s := 8) (hx.resolve_left c_2).1 (Int32.not_le.mpr (hx.resolve_left c_2).2) (by decide)) ?_
        refine go_goto 38 dX12_orderBy_34 (by decide) ?_
        refine go_ireturn dX12_orderBy_38 rfl rfl (Nat.le_of_ble_eq_true rfl) (Nat.le_of_ble_eq_true rfl) ?_
        first
        | exact ⟨by rw [if_pos (Or.inl c_2)], rfl⟩
        | exact ⟨by rw [if_pos (Or.inr c_10)], rfl⟩
        | exact ⟨by rw [if_neg (fun q => q.elim c_2 c_10), if_pos c_25], rfl⟩
        | exact ⟨by rw [if_neg (fun q => q.elim c_2 c_10), if_neg c_25], rfl⟩
    · refine go_aload_n dX12_orderBy_13 rfl ?_
      refine go_getf fX12_210 dX12_orderBy_14 rfl rfl ?_
      refine go_goto 38 dX12_orderBy_17 (by decide) ?_
      refine go_ireturn dX12_orderBy_38 rfl rfl (Nat.le_of_ble_eq_true rfl) (Nat.le_of_ble_eq_true rfl) ?_
      first
      | exact ⟨by rw [if_pos (Or.inl c_2)], rfl⟩
      | exact ⟨by rw [if_pos (Or.inr c_10)], rfl⟩
      | exact ⟨by rw [if_neg (fun q => q.elim c_2 c_10), if_pos c_25], rfl⟩
      | exact ⟨by rw [if_neg (fun q => q.elim c_2 c_10), if_neg c_25], rfl⟩
