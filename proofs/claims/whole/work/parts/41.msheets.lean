theorem sht_f {s : Nat} (h : s < 4) : ¬ (if nI s < 0 ∨ 3 < nI s then (0 : Int32) else 1) = 0 := by
  rw [if_neg]
  · decide
  · rintro (q | q)
    · exact nI_nn (by omega) q
    · exact absurd ((nI_ltI (a := 3) (by decide) (by omega)).mp q) (by omega)
theorem sixty (s i : Nat) : (60 : Int32) * nI s + nI i = nI (60 * s + i) := by rw [show (60 : Int32) = nI 60 from rfl, pk_mul, nI_add]
set_option maxRecDepth 100000 in
theorem ev_X12_lose (U : TU) (lt : Int32) (B : TB2) (F A : TX) (se : AF) (R : TR) (O : TO) (V : TX) (al : AF) (dr : Int32) (s : Nat) (hs : s < 4) : Ev MX12_lose [.ref 0, .int (nI s)] (mwd U lt B F A se R O V al dr) (fun v w => U.1 s < 0 ∧ v = some (.int (-11)) ∧ w = (mwd U 1 B F A se R O V al dr) ∨ ¬ U.1 s < 0 ∧ v = some (.int (U.2.1 s)) ∧ w = (mwd ((upd U.1 s (-1)), U.2.1, U.2.2.1, U.2.2.2) lt B F A se R O V al dr)) := by
  refine ev_of bX12_lose [some (.ref 0), some (.int (nI s))] (Nat.le_of_ble_eq_true rfl) rfl ?_
  refine go_iload_n dX12_lose_0 rfl ?_
  refine go_callSi (z := MX12_isSheet) [] dX12_lose_1 lX12_83 sX12_isSheet (ev_X12_isSheet _) rfl rfl rfl rfl rfl rfl ?_
  refine go_if_ne 10 dX12_lose_4 (by decide) (fun _ => ?_) (fun c_4 => absurd c_4 (sht_f hs))
  refine go_aload_n dX12_lose_10 rfl ?_
  refine go_getf fX12_7 dX12_lose_11 rfl rfl ?_
  refine go_iload_n dX12_lose_14 rfl ?_
  refine go_iald dX12_lose_15 rfl (vp_in_nI (by omega) (by decide)) ?_
  simp only [nI_clamp (show s < 2 ^ 31 by omega)]
  refine go_if_ge 25 dX12_lose_16 (by decide) (fun c_16 => ?_) (fun c_16 => ?_)
  · refine go_aload_n dX12_lose_25 rfl ?_
    refine go_getf fX12_7 dX12_lose_26 rfl rfl ?_
    refine go_iload_n dX12_lose_29 rfl ?_
    refine go_iconst (-1) dX12_lose_30 (by decide) ?_
    refine go_iast dX12_lose_31 rfl (vp_in_nI (by omega) (by decide)) ?_
    refine go_aload_n dX12_lose_32 rfl ?_
    refine go_getf fX12_13 dX12_lose_33 rfl rfl ?_
    refine go_iload_n dX12_lose_36 rfl ?_
    refine go_iald dX12_lose_37 rfl (vp_in_nI (by omega) (by decide)) ?_
    refine go_ireturn dX12_lose_38 rfl rfl (Nat.le_of_ble_eq_true rfl) (Nat.le_of_ble_eq_true rfl) ?_
    refine Or.inr ⟨Int32.not_lt.mpr c_16, ?_, ?_⟩ <;> simp only [nI_clamp (show s < 2 ^ 31 by omega)] <;> rfl
  · refine go_aload_n dX12_lose_19 rfl ?_
    refine go_iconst (1) dX12_lose_20 (by decide) ?_
    refine go_callVsw (z := MX12_finds) dX12_lose_21 lX12_89 sX12_finds (ev_X12_finds U lt B F A se R O V al dr (1)) rfl rfl rfl ⟨_, _, rfl⟩ rfl rfl rfl ?_
    refine go_ireturn dX12_lose_24 rfl rfl (Nat.le_of_ble_eq_true rfl) (Nat.le_of_ble_eq_true rfl) ?_
    exact Or.inl ⟨Int32.not_le.mp c_16, rfl, rfl⟩
set_option maxRecDepth 100000 in
theorem ev_X12_lacks (U : TU) (lt : Int32) (B : TB2) (F A : TX) (se : AF) (R : TR) (O : TO) (V : TX) (al : AF) (dr : Int32) (s : Nat) (hs : s < 4) (z : Nat) (hz : z ≤ 60) (hU : U.2.1 s = nI z) (g i : Int32) : Ev MX12_lacks [.ref 0, .int (nI s), .int g, .int i] (mwd U lt B F A se R O V al dr) (fun v w => ∃ x : Int32, x = (if U.1 s < 0 then 1 else if ¬ U.1 s = g then 3 else if i < 0 ∨ ¬ i < nI z then 2 else 0) ∧ v = some (.int (if x = 0 then 0 else -10 - x)) ∧ w = (if x = 0 then (mwd U lt B F A se R O V al dr) else (mwd U x B F A se R O V al dr))) := by
  refine ev_of bX12_lacks [some (.ref 0), some (.int (nI s)), some (.int g), some (.int i)] (Nat.le_of_ble_eq_true rfl) rfl ?_
  refine go_aload_n dX12_lacks_0 rfl ?_
  refine go_getf fX12_7 dX12_lacks_1 rfl rfl ?_
  refine go_iload_n dX12_lacks_4 rfl ?_
  refine go_iald dX12_lacks_5 rfl (vp_in_nI (by omega) (by decide)) ?_
  simp only [nI_clamp (show s < 2 ^ 31 by omega)]
  refine go_if_ge 15 dX12_lacks_6 (by decide) (fun c_6 => ?_) (fun c_6 => ?_)
  · refine go_aload_n dX12_lacks_15 rfl ?_
    refine go_getf fX12_7 dX12_lacks_16 rfl rfl ?_
    refine go_iload_n dX12_lacks_19 rfl ?_
    refine go_iald dX12_lacks_20 rfl (vp_in_nI (by omega) (by decide)) ?_
    simp only [nI_clamp (show s < 2 ^ 31 by omega)]
    refine go_iload_n dX12_lacks_21 rfl ?_
    refine go_icmp_eq 31 dX12_lacks_22 (by decide) (fun c_22 => ?_) (fun c_22 => ?_)
    · refine go_iload_n dX12_lacks_31 rfl ?_
      refine go_i2l dX12_lacks_32 ?_
      refine go_lconst 0 dX12_lacks_33 (by decide) ?_
      refine go_aload_n dX12_lacks_34 rfl ?_
      refine go_getf fX12_13 dX12_lacks_35 rfl rfl ?_
      refine go_iload_n dX12_lacks_38 rfl ?_
      refine go_iald dX12_lacks_39 rfl (vp_in_nI (by omega) (by decide)) ?_
      simp only [nI_clamp (show s < 2 ^ 31 by omega)]
      rw [hU]
      refine go_iconst (1) dX12_lacks_40 (by decide) ?_
      refine go_isub dX12_lacks_41 ?_
      refine go_i2l dX12_lacks_42 ?_
      refine go_callSi (z := MX12_in) [] dX12_lacks_43 lX12_73 sX12_in (ev_X12_in (i) (0) (nI z - 1) _ _ rfl rfl) rfl rfl rfl rfl rfl rfl ?_
      refine go_if_eq 53 dX12_lacks_46 (by decide) (fun c_46 => ?_) (fun c_46 => ?_)
      · refine go_aload_n dX12_lacks_53 rfl ?_
        refine go_iconst (2) dX12_lacks_54 (by decide) ?_
        refine go_callVsw (z := MX12_finds) dX12_lacks_55 lX12_89 sX12_finds (ev_X12_finds U lt B F A se R O V al dr (2)) rfl rfl rfl ⟨_, _, rfl⟩ rfl rfl rfl ?_
        refine go_ireturn dX12_lacks_58 rfl rfl (Nat.le_of_ble_eq_true rfl) (Nat.le_of_ble_eq_true rfl) ?_
        have e : (i < 0 ∨ nI z - 1 < i) ↔ (i < 0 ∨ ¬ i < nI z) := or_congr Iff.rfl ((lt_pred (by omega) i).trans Int32.not_lt.symm)
        first
        | exact ⟨2, by rw [if_neg (Int32.not_lt.mpr c_6), if_neg (fun q => q c_22), if_pos (e.mp (full_t2 c_46))], rfl, rfl⟩
        | exact ⟨0, by rw [if_neg (Int32.not_lt.mpr c_6), if_neg (fun q => q c_22), if_neg (fun q => full_t3 c_46 (e.mpr q))], rfl, rfl⟩
      · refine go_iconst (0) dX12_lacks_49 (by decide) ?_
        refine go_goto 58 dX12_lacks_50 (by decide) ?_
        refine go_ireturn dX12_lacks_58 rfl rfl (Nat.le_of_ble_eq_true rfl) (Nat.le_of_ble_eq_true rfl) ?_
        have e : (i < 0 ∨ nI z - 1 < i) ↔ (i < 0 ∨ ¬ i < nI z) := or_congr Iff.rfl ((lt_pred (by omega) i).trans Int32.not_lt.symm)
        first
        | exact ⟨2, by rw [if_neg (Int32.not_lt.mpr c_6), if_neg (fun q => q c_22), if_pos (e.mp (full_t2 c_46))], rfl, rfl⟩
        | exact ⟨0, by rw [if_neg (Int32.not_lt.mpr c_6), if_neg (fun q => q c_22), if_neg (fun q => full_t3 c_46 (e.mpr q))], rfl, rfl⟩
    · refine go_aload_n dX12_lacks_25 rfl ?_
      refine go_iconst (3) dX12_lacks_26 (by decide) ?_
      refine go_callVsw (z := MX12_finds) dX12_lacks_27 lX12_89 sX12_finds (ev_X12_finds U lt B F A se R O V al dr (3)) rfl rfl rfl ⟨_, _, rfl⟩ rfl rfl rfl ?_
      refine go_ireturn dX12_lacks_30 rfl rfl (Nat.le_of_ble_eq_true rfl) (Nat.le_of_ble_eq_true rfl) ?_
      exact ⟨3, by rw [if_neg (Int32.not_lt.mpr c_6), if_pos c_22], rfl, rfl⟩
  · refine go_aload_n dX12_lacks_9 rfl ?_
    refine go_iconst (1) dX12_lacks_10 (by decide) ?_
    refine go_callVsw (z := MX12_finds) dX12_lacks_11 lX12_89 sX12_finds (ev_X12_finds U lt B F A se R O V al dr (1)) rfl rfl rfl ⟨_, _, rfl⟩ rfl rfl rfl ?_
    refine go_ireturn dX12_lacks_14 rfl rfl (Nat.le_of_ble_eq_true rfl) (Nat.le_of_ble_eq_true rfl) ?_
    exact ⟨1, by rw [if_pos (Int32.not_le.mp c_6)], rfl, rfl⟩
