theorem sht_f {s : Nat} (h : s < 4) : ¬ (if nI s < 0 ∨ 3 < nI s then (0 : Int32) else 1) = 0 := by
  rw [if_neg]
  · decide
  · rintro (q | q)
    · exact nI_nn (by omega) q
    · exact absurd ((nI_ltI (a := 3) (by decide) (by omega)).mp q) (by omega)
theorem sixty (s i : Nat) : (60 : Int32) * nI s + nI i = nI (60 * s + i) := by rw [show (60 : Int32) = nI 60 from rfl, pk_mul, nI_add]
set_option maxRecDepth 100000 in
theorem ev_X12_lose (U : TU) (lt : Int32) (B : TB2) (F A : TX) (se : AF) (R : TR) (O : TO) (V : TX) (al : AF) (dr : Int32) (s : Nat) (hs : s < 4) : Ev MX12_lose [.ref 0, .int (nI s)] (mwd U lt B F A se R O V al dr) (fun v w => U.1 s < 0 ∧ v = some (.int (-11)) ∧ w = (mwd U 1 B F A se R O V al dr) ∨ ¬ U.1 s < 0 ∧ v = some (.int (U.2.1 s)) ∧ w = (mwd ((upd U.1 s (-1)), U.2.1, U.2.2.1, U.2.2.2) lt B F A se R O V al dr)) := by
  refine ev_of bX12_lose [some (.ref 0), some (.int (nI s))] (Nat.le_of_ble_eq_true rfl) rfl ?_
  refine go_iload_n dX12_lose_0 rfl ?_
  refine go_callSi (z := MX12_isSheet) [] dX12_lose_1 lX12_83 sX12_isSheet (ev_X12_isSheet _) rfl rfl rfl rfl rfl rfl ?_
  refine go_if_ne 10 dX12_lose_4 (by decide) (fun _ => ?_) (fun c_4 => absurd c_4 (sht_f hs))
  refine go_aload_n dX12_lose_10 rfl ?_
  refine go_getf fX12_7 dX12_lose_11 rfl rfl ?_
  refine go_iload_n dX12_lose_14 rfl ?_
  refine go_iald dX12_lose_15 rfl (vp_in_nI (by omega) (by decide)) ?_
  simp only [nI_clamp (show s < 2 ^ 31 by omega)]
  refine go_if_ge 25 dX12_lose_16 (by decide) (fun c_16 => ?_) (fun c_16 => ?_)
  · refine go_aload_n dX12_lose_25 rfl ?_
    refine go_getf fX12_7 dX12_lose_26 rfl rfl ?_
    refine go_iload_n dX12_lose_29 rfl ?_
    refine go_iconst (-1) dX12_lose_30 (by decide) ?_
    refine go_iast dX12_lose_31 rfl (vp_in_nI (by omega) (by decide)) ?_
    refine go_aload_n dX12_lose_32 rfl ?_
    refine go_getf fX12_13 dX12_lose_33 rfl rfl ?_
    refine go_iload_n dX12_lose_36 rfl ?_
    refine go_iald dX12_lose_37 rfl (vp_in_nI (by omega) (by decide)) ?_
    refine go_ireturn dX12_lose_38 rfl rfl (Nat.le_of_ble_eq_true rfl) (Nat.le_of_ble_eq_true rfl) ?_
    refine Or.inr ⟨Int32.not_lt.mpr c_16, ?_, ?_⟩ <;> simp only [nI_clamp (show s < 2 ^ 31 by omega)] <;> rfl
  · refine go_aload_n dX12_lose_19 rfl ?_
    refine go_iconst (1) dX12_lose_20 (by decide) ?_
    refine go_callVsw (z := MX12_finds) dX12_lose_21 lX12_89 sX12_finds (ev_X12_finds U lt B F A se R O V al dr (1)) rfl rfl rfl ⟨_, _, rfl⟩ rfl rfl rfl ?_
    refine go_ireturn dX12_lose_24 rfl rfl (Nat.le_of_ble_eq_true rfl) (Nat.le_of_ble_eq_true rfl) ?_
    exact Or.inl ⟨Int32.not_le.mp c_16, rfl, rfl⟩
set_option maxRecDepth 100000 in
theorem ev_X12_lacks (U : TU) (lt : Int32) (B : TB2) (F A : TX) (se : AF) (R : TR) (O : TO) (V : TX) (al : AF) (dr : Int32) (s : Nat) (hs : s < 4) (z : Nat) (hz : z ≤ 60) (hU : U.2.1 s = nI z) (g i : Int32) : Ev MX12_lacks [.ref 0, .int (nI s), .int g, .int i] (mwd U lt B F A se R O V al dr) (fun v w => ∃ x : Int32, x = (if U.1 s < 0 then 1 else if ¬ U.1 s = g then 3 else if i < 0 ∨ ¬ i < nI z then 2 else 0) ∧ v = some (.int (if x = 0 then 0 else -10 - x)) ∧ w = (if x = 0 then (mwd U lt B F A se R O V al dr) else (mwd U x B F A se R O V al dr))) := by
  refine ev_of bX12_lacks [some (.ref 0), some (.int (nI s)), some (.int g), some (.int i)] (Nat.le_of_ble_eq_true rfl) rfl ?_
  refine go_aload_n dX12_lacks_0 rfl ?_
  refine go_getf fX12_7 dX12_lacks_1 rfl rfl ?_
  refine go_iload_n dX12_lacks_4 rfl ?_
  refine go_iald dX12_lacks_5 rfl (vp_in_nI (by omega) (by decide)) ?_
  simp only [nI_clamp (show s < 2 ^ 31 by omega)]
  refine go_if_ge 15 dX12_lacks_6 (by decide) (fun c_6 => ?_) (fun c_6 => ?_)
  · refine go_aload_n dX12_lacks_15 rfl ?_
    refine go_getf fX12_7 dX12_lacks_16 rfl rfl ?_
    refine go_iload_n dX12_lacks_19 rfl ?_
    refine go_iald dX12_lacks_20 rfl (vp_in_nI (by omega) (by decide)) ?_
    simp only [nI_clamp (show s < 2 ^ 31 by omega)]
    refine go_iload_n dX12_lacks_21 rfl ?_
    refine go_icmp_eq 31 dX12_lacks_22 (by decide) (fun c_22 => ?_) (fun c_22 => ?_)
    · refine go_iload_n dX12_lacks_31 rfl ?_
      refine go_i2l dX12_lacks_32 ?_
      refine go_lconst 0 dX12_lacks_33 (by decide) ?_
      refine go_aload_n dX12_lacks_34 rfl ?_
      refine go_getf fX12_13 dX12_lacks_35 rfl rfl ?_
      refine go_iload_n dX12_lacks_38 rfl ?_
      refine go_iald dX12_lacks_39 rfl (vp_in_nI (by omega) (by decide)) ?_
      simp only [nI_clamp (show s < 2 ^ 31 by omega)]
      rw [hU]
      refine go_iconst (1) dX12_lacks_40 (by decide) ?_
      refine go_isub dX12_lacks_41 ?_
      refine go_i2l dX12_lacks_42 ?_
      refine go_callSi (z := MX12_in) [] dX12_lacks_43 lX12_73 sX12_in (ev_X12_in (i) (0) (nI z - 1) _ _ rfl rfl) rfl rfl rfl rfl rfl rfl ?_
      refine go_if_eq 53 dX12_lacks_46 (by decide) (fun c_46 => ?_) (fun c_46 => ?_)
      · refine go_aload_n dX12_lacks_53 rfl ?_
        refine go_iconst (2) dX12_lacks_54 (by decide) ?_
        refine go_callVsw (z := MX12_finds) dX12_lacks_55 lX12_89 sX12_finds (ev_X12_finds U lt B F A se R O V al dr (2)) rfl rfl rfl ⟨_, _, rfl⟩ rfl rfl rfl ?_
        refine go_ireturn dX12_lacks_58 rfl rfl (Nat.le_of_ble_eq_true rfl) (Nat.le_of_ble_eq_true rfl) ?_
        have e : (i < 0 ∨ nI z - 1 < i) ↔ (i < 0 ∨ ¬ i < nI z) := or_congr Iff.rfl ((lt_pred (by omega) i).trans Int32.not_lt.symm)
        first
        | exact ⟨2, by rw [if_neg (Int32.not_lt.mpr c_6), if_neg (fun q => q c_22), if_pos (e.mp (full_t2 c_46))], rfl, rfl⟩
        | exact ⟨0, by rw [if_neg (Int32.not_lt.mpr c_6), if_neg (fun q => q c_22), if_neg (fun q => full_t3 c_46 (e.mpr q))], rfl, rfl⟩
      · refine go_iconst (0) dX12_lacks_49 (by decide) ?_
        refine go_goto 58 dX12_lacks_50 (by decide) ?_
        refine go_ireturn dX12_lacks_58 rfl rfl (Nat.le_of_ble_eq_true rfl) (Nat.le_of_ble_eq_true rfl) ?_
        have e : (i < 0 ∨ nI z - 1 < i) ↔ (i < 0 ∨ ¬ i < nI z) := or_congr Iff.rfl ((lt_pred (by omega) i).trans Int32.not_lt.symm)
        first
        | exact ⟨2, by rw [if_neg (Int32.not_lt.mpr c_6), if_neg (fun q => q c_22), if_pos (e.mp (full_t2 c_46))], rfl, rfl⟩
        | exact ⟨0, by rw [if_neg (Int32.not_lt.mpr c_6), if_neg (fun q => q c_22), if_neg (fun q => full_t3 c_46 (e.mpr q))], rfl, rfl⟩
    · refine go_aload_n dX12_lacks_25 rfl ?_
      refine go_iconst (3) dX12_lacks_26 (by decide) ?_
      refine go_callVsw (z := MX12_finds) dX12_lacks_27 lX12_89 sX12_finds (ev_X12_finds U lt B F A se R O V al dr (3)) rfl rfl rfl ⟨_, _, rfl⟩ rfl rfl rfl ?_
      refine go_ireturn dX12_lacks_30 rfl rfl (Nat.le_of_ble_eq_true rfl) (Nat.le_of_ble_eq_true rfl) ?_
      exact ⟨3, by rw [if_neg (Int32.not_lt.mpr c_6), if_pos c_22], rfl, rfl⟩
  · refine go_aload_n dX12_lacks_9 rfl ?_
    refine go_iconst (1) dX12_lacks_10 (by decide) ?_
    refine go_callVsw (z := MX12_finds) dX12_lacks_11 lX12_89 sX12_finds (ev_X12_finds U lt B F A se R O V al dr (1)) rfl rfl rfl ⟨_, _, rfl⟩ rfl rfl rfl ?_
    refine go_ireturn dX12_lacks_14 rfl rfl (Nat.le_of_ble_eq_true rfl) (Nat.le_of_ble_eq_true rfl) ?_
    exact ⟨1, by rw [if_pos (Int32.not_le.mp c_6)], rfl, rfl⟩
theorem lck0 {a g i z : Int32} (h : (if a < 0 then 1 else if ¬ a = g then 3 else if i < 0 ∨ ¬ i < z then 2 else (0 : Int32)) = 0) : ¬ a < 0 ∧ a = g ∧ ¬ i < 0 ∧ i < z := by
  by_cases h1 : a < 0
  · rw [if_pos h1] at h; exact absurd h (by decide)
  · rw [if_neg h1] at h
    by_cases h2 : a = g
    · rw [if_neg (fun q => q h2)] at h
      by_cases h3 : i < 0 ∨ ¬ i < z
      · rw [if_pos h3] at h; exact absurd h (by decide)
      · exact ⟨h1, h2, fun q => h3 (Or.inl q), Decidable.of_not_not fun q => h3 (Or.inr q)⟩
    · rw [if_pos h2] at h; exact absurd h (by decide)
theorem lck_ne {x : Int32} {a g i z : Int32} (hx : x = (if a < 0 then 1 else if ¬ a = g then 3 else if i < 0 ∨ ¬ i < z then 2 else (0 : Int32))) (h : (if x = 0 then (0 : Int32) else -10 - x) = 0) : x = 0 := by
  by_cases q : x = 0
  · exact q
  · rw [if_neg q] at h
    have : x = 1 ∨ x = 3 ∨ x = 2 ∨ x = 0 := by
      rw [hx]
      by_cases h1 : a < 0
      · rw [if_pos h1]; exact Or.inl rfl
      · rw [if_neg h1]
        by_cases h2 : a = g
        · rw [if_neg (fun q => q h2)]
          by_cases h3 : i < 0 ∨ ¬ i < z
          · rw [if_pos h3]; exact Or.inr (Or.inr (Or.inl rfl))
          · rw [if_neg h3]; exact Or.inr (Or.inr (Or.inr rfl))
        · rw [if_pos h2]; exact Or.inr (Or.inl rfl)
    rcases this with rfl | rfl | rfl | rfl
    · exact absurd h (by decide)
    · exact absurd h (by decide)
    · exact absurd h (by decide)
    · rfl
set_option maxRecDepth 100000 in
theorem ev_X12_lay (U : TU) (lt : Int32) (B : TB2) (F A : TX) (se : AF) (R : TR) (O : TO) (V : TX) (al : AF) (dr : Int32) (s : Nat) (hs : s < 4) (z : Nat) (hz : z ≤ 60) (hU : U.2.1 s = nI z) (g i u : Int32) : Ev MX12_lay [.ref 0, .int (nI s), .int g, .int i, .int u] (mwd U lt B F A se R O V al dr) (fun v w => (g < 0 ∨ 2 < g) ∧ v = some (.int (-2)) ∧ w = (mwd U lt B F A se R O V al dr) ∨ ¬ (g < 0 ∨ 2 < g) ∧ ¬ (if U.1 s < 0 then 1 else if ¬ U.1 s = g then 3 else if i < 0 ∨ ¬ i < nI z then 2 else (0 : Int32)) = 0 ∧ v = some (.int (-10 - (if U.1 s < 0 then 1 else if ¬ U.1 s = g then 3 else if i < 0 ∨ ¬ i < nI z then 2 else (0 : Int32)))) ∧ w = (mwd U (if U.1 s < 0 then 1 else if ¬ U.1 s = g then 3 else if i < 0 ∨ ¬ i < nI z then 2 else (0 : Int32)) B F A se R O V al dr) ∨ ¬ (g < 0 ∨ 2 < g) ∧ (if U.1 s < 0 then 1 else if ¬ U.1 s = g then 3 else if i < 0 ∨ ¬ i < nI z then 2 else (0 : Int32)) = 0 ∧ v = some (.int 1) ∧ w = (mwd (U.1, U.2.1, (upd U.2.2.1 (60 * s + i.toNatClampNeg) (cutI g u)), U.2.2.2) lt B F A se R O V al dr)) := by
  refine ev_of bX12_lay [some (.ref 0), some (.int (nI s)), some (.int g), some (.int i), some (.int u), none] (Nat.le_of_ble_eq_true rfl) rfl ?_
  refine go_iload_n dX12_lay_0 rfl ?_
  refine go_callSi (z := MX12_isSheet) [] dX12_lay_1 lX12_83 sX12_isSheet (ev_X12_isSheet _) rfl rfl rfl rfl rfl rfl ?_
  refine go_if_eq 19 dX12_lay_4 (by decide) (fun c_4 => absurd c_4 (sht_f hs)) (fun _ => ?_)
  refine go_iload_n dX12_lay_7 rfl ?_
  refine go_i2l dX12_lay_8 ?_
  refine go_lconst 0 dX12_lay_9 (by decide) ?_
  refine go_ldc2_w dX12_lay_10 kX12_87 ?_
  refine go_callSi (z := MX12_in) [] dX12_lay_13 lX12_73 sX12_in (ev_X12_in (g) (0) (2) _ _ rfl rfl) rfl rfl rfl rfl rfl rfl ?_
  refine go_if_ne 22 dX12_lay_16 (by decide) (fun c_16 => ?_) (fun c_16 => ?_)
  · refine go_aload_n dX12_lay_22 rfl ?_
    refine go_iload_n dX12_lay_23 rfl ?_
    refine go_iload_n dX12_lay_24 rfl ?_
    refine go_iload_n dX12_lay_25 rfl ?_
    refine go_callVs (z := MX12_lacks) dX12_lay_26 lX12_93 sX12_lacks (ev_X12_lacks U lt B F A se R O V al dr s hs z hz hU g i) rfl rfl rfl ⟨_, _, rfl⟩ rfl rfl (fun v w1 h => by obtain ⟨x, -, -, rfl⟩ := h; split <;> rfl) (fun v_26 w_26 h_26 => ?_)
    obtain ⟨x, hx, rfl, rfl⟩ := h_26
    refine go_istore dX12_lay_29 (by decide) ?_
    refine go_iload dX12_lay_31 rfl ?_
    refine go_if_eq 39 dX12_lay_33 (by decide) (fun c_33 => ?_) (fun c_33 => ?_)
    · obtain rfl := lck_ne hx c_33
      rw [if_pos rfl]
      obtain ⟨q1, q2, q3, q4⟩ := lck0 hx.symm
      obtain ⟨hi1, hi2⟩ := in_range q3 (Int32.not_le.mpr q4) (show z < 2 ^ 31 by omega)
      refine go_aload_n dX12_lay_39 rfl ?_
      refine go_getf fX12_16 dX12_lay_40 rfl rfl ?_
      refine go_bipush (60) dX12_lay_43 (by decide) ?_
      refine go_iload_n dX12_lay_45 rfl ?_
      refine go_imul dX12_lay_46 ?_
      refine go_iload_n dX12_lay_47 rfl ?_
      refine go_iadd dX12_lay_48 ?_
      rw [show (60 : Int32) * nI s + i = nI (60 * s + i.toNatClampNeg) from (congrArg (fun q => (60 : Int32) * nI s + q) hi1).trans (sixty s _)]
      refine go_iload_n dX12_lay_49 rfl ?_
      refine go_iload dX12_lay_50 rfl ?_
      refine go_callSi (z := MX12_cut) [] dX12_lay_52 lX12_97 sX12_cut (ev_X12_cut g u) rfl rfl rfl rfl rfl rfl ?_
      refine go_iast dX12_lay_55 rfl (vp_in_nI (by omega) (by decide)) ?_
      simp only [nI_clamp (show 60 * s + i.toNatClampNeg < 2 ^ 31 by omega)]
      refine go_iconst (1) dX12_lay_56 (by decide) ?_
      refine go_ireturn dX12_lay_57 rfl rfl (Nat.le_of_ble_eq_true rfl) (Nat.le_of_ble_eq_true rfl) ?_
      exact Or.inr (Or.inr ⟨full_t3 c_16, hx.symm, rfl, rfl⟩)
    · refine go_iload dX12_lay_36 rfl ?_
      refine go_ireturn dX12_lay_38 rfl rfl (Nat.le_of_ble_eq_true rfl) (Nat.le_of_ble_eq_true rfl) ?_
      have hx0 : ¬ x = 0 := fun q => c_33 (if_pos q)
      rw [if_neg hx0, if_neg hx0]
      exact Or.inr (Or.inl ⟨full_t3 c_16, by rw [← hx]; exact hx0, by rw [← hx], by rw [← hx]⟩)
  · refine go_bipush (-2) dX12_lay_19 (by decide) ?_
    refine go_ireturn dX12_lay_21 rfl rfl (Nat.le_of_ble_eq_true rfl) (Nat.le_of_ble_eq_true rfl) ?_
    exact Or.inl ⟨full_t2 c_16, rfl, rfl⟩
set_option maxRecDepth 100000 in
theorem ev_X12_get (U : TU) (lt : Int32) (B : TB2) (F A : TX) (se : AF) (R : TR) (O : TO) (V : TX) (al : AF) (dr : Int32) (s : Nat) (hs : s < 4) (z : Nat) (hz : z ≤ 60) (hU : U.2.1 s = nI z) (g i : Int32) : Ev MX12_get [.ref 0, .int (nI s), .int g, .int i] (mwd U lt B F A se R O V al dr) (fun v w => (g < 0 ∨ 2 < g) ∧ v = some (.int (-2147483648)) ∧ w = (mwd U lt B F A se R O V al dr) ∨ ¬ (g < 0 ∨ 2 < g) ∧ ¬ (if U.1 s < 0 then 1 else if ¬ U.1 s = g then 3 else if i < 0 ∨ ¬ i < nI z then 2 else (0 : Int32)) = 0 ∧ v = some (.int (-2147483648)) ∧ w = (mwd U (if U.1 s < 0 then 1 else if ¬ U.1 s = g then 3 else if i < 0 ∨ ¬ i < nI z then 2 else (0 : Int32)) B F A se R O V al dr) ∨ ¬ (g < 0 ∨ 2 < g) ∧ (if U.1 s < 0 then 1 else if ¬ U.1 s = g then 3 else if i < 0 ∨ ¬ i < nI z then 2 else (0 : Int32)) = 0 ∧ v = some (.int (U.2.2.1 (60 * s + i.toNatClampNeg))) ∧ w = (mwd U lt B F A se R O V al dr)) := by
  refine ev_of bX12_get [some (.ref 0), some (.int (nI s)), some (.int g), some (.int i)] (Nat.le_of_ble_eq_true rfl) rfl ?_
  refine go_iload_n dX12_get_0 rfl ?_
  refine go_callSi (z := MX12_isSheet) [] dX12_get_1 lX12_83 sX12_isSheet (ev_X12_isSheet _) rfl rfl rfl rfl rfl rfl ?_
  refine go_if_eq 29 dX12_get_4 (by decide) (fun c_4 => absurd c_4 (sht_f hs)) (fun _ => ?_)
  refine go_iload_n dX12_get_7 rfl ?_
  refine go_i2l dX12_get_8 ?_
  refine go_lconst 0 dX12_get_9 (by decide) ?_
  refine go_ldc2_w dX12_get_10 kX12_87 ?_
  refine go_callSi (z := MX12_in) [] dX12_get_13 lX12_73 sX12_in (ev_X12_in (g) (0) (2) _ _ rfl rfl) rfl rfl rfl rfl rfl rfl ?_
  refine go_if_eq 29 dX12_get_16 (by decide) (fun c_16 => ?_) (fun c_16 => ?_)
  · refine go_ldc dX12_get_29 kX12_101 ?_
    refine go_ireturn dX12_get_31 rfl rfl (Nat.le_of_ble_eq_true rfl) (Nat.le_of_ble_eq_true rfl) ?_
    first
    | exact Or.inl ⟨full_t2 c_16, rfl, rfl⟩
    | (have hx0 : ¬ x = 0 := fun q => c_26 (if_pos q)
       rw [if_neg hx0]
       exact Or.inr (Or.inl ⟨full_t3 c_16, by rw [← hx]; exact hx0, rfl, by rw [← hx]⟩))
  · refine go_aload_n dX12_get_19 rfl ?_
    refine go_iload_n dX12_get_20 rfl ?_
    refine go_iload_n dX12_get_21 rfl ?_
    refine go_iload_n dX12_get_22 rfl ?_
    refine go_callVs (z := MX12_lacks) dX12_get_23 lX12_93 sX12_lacks (ev_X12_lacks U lt B F A se R O V al dr s hs z hz hU g i) rfl rfl rfl ⟨_, _, rfl⟩ rfl rfl (fun v w1 h => by obtain ⟨x, -, -, rfl⟩ := h; split <;> rfl) (fun v_23 w_23 h_23 => ?_)
    obtain ⟨x, hx, rfl, rfl⟩ := h_23
    refine go_if_eq 32 dX12_get_26 (by decide) (fun c_26 => ?_) (fun c_26 => ?_)
    · obtain rfl := lck_ne hx c_26
      rw [if_pos rfl]
      obtain ⟨q1, q2, q3, q4⟩ := lck0 hx.symm
      obtain ⟨hi1, hi2⟩ := in_range q3 (Int32.not_le.mpr q4) (show z < 2 ^ 31 by omega)
      refine go_aload_n dX12_get_32 rfl ?_
      refine go_getf fX12_16 dX12_get_33 rfl rfl ?_
      refine go_bipush (60) dX12_get_36 (by decide) ?_
      refine go_iload_n dX12_get_38 rfl ?_
      refine go_imul dX12_get_39 ?_
      refine go_iload_n dX12_get_40 rfl ?_
      refine go_iadd dX12_get_41 ?_
      rw [show (60 : Int32) * nI s + i = nI (60 * s + i.toNatClampNeg) from (congrArg (fun q => (60 : Int32) * nI s + q) hi1).trans (sixty s _)]
      refine go_iald dX12_get_42 rfl (vp_in_nI (by omega) (by decide)) ?_
      simp only [nI_clamp (show 60 * s + i.toNatClampNeg < 2 ^ 31 by omega)]
      refine go_ireturn dX12_get_43 rfl rfl (Nat.le_of_ble_eq_true rfl) (Nat.le_of_ble_eq_true rfl) ?_
      exact Or.inr (Or.inr ⟨full_t3 c_16, hx.symm, rfl, rfl⟩)
    · refine go_ldc dX12_get_29 kX12_101 ?_
      refine go_ireturn dX12_get_31 rfl rfl (Nat.le_of_ble_eq_true rfl) (Nat.le_of_ble_eq_true rfl) ?_
      first
      | exact Or.inl ⟨full_t2 c_16, rfl, rfl⟩
      | (have hx0 : ¬ x = 0 := fun q => c_26 (if_pos q)
         rw [if_neg hx0]
         exact Or.inr (Or.inl ⟨full_t3 c_16, by rw [← hx]; exact hx0, rfl, by rw [← hx]⟩))
set_option maxRecDepth 100000 in
theorem ev_msheet_bad (U : TU) (lt : Int32) (B : TB2) (F A : TX) (se : AF) (R : TR) (O : TO) (V : TX) (al : AF) (dr : Int32) (x g n : Int32) (hx : x < 0 ∨ 3 < x) : Ev MX12_sheet [.ref 0, .int x, .int g, .int n] (mwd U lt B F A se R O V al dr) (Ri (mwd U lt B F A se R O V al dr) (-2)) := by
  refine ev_of bX12_sheet [some (.ref 0), some (.int x), some (.int g), some (.int n), none] (Nat.le_of_ble_eq_true rfl) rfl ?_
  refine go_iload_n dX12_sheet_0 rfl ?_
  refine go_callSi (z := MX12_isSheet) [] dX12_sheet_1 lX12_83 sX12_isSheet (ev_X12_isSheet _) rfl rfl rfl rfl rfl rfl ?_
  refine go_if_eq 25 dX12_sheet_4 (by decide) (fun _ => ?_) (fun c_4 => absurd (if_pos hx) c_4)
  refine go_bipush (-2) dX12_sheet_25 (by decide) ?_
  refine go_ireturn dX12_sheet_27 rfl rfl (Nat.le_of_ble_eq_true rfl) (Nat.le_of_ble_eq_true rfl) ?_
  exact ⟨rfl, rfl⟩
set_option maxRecDepth 100000 in
theorem ev_mlose_bad (U : TU) (lt : Int32) (B : TB2) (F A : TX) (se : AF) (R : TR) (O : TO) (V : TX) (al : AF) (dr : Int32) (x : Int32) (hx : x < 0 ∨ 3 < x) : Ev MX12_lose [.ref 0, .int x] (mwd U lt B F A se R O V al dr) (Ri (mwd U lt B F A se R O V al dr) (-2)) := by
  refine ev_of bX12_lose [some (.ref 0), some (.int x)] (Nat.le_of_ble_eq_true rfl) rfl ?_
  refine go_iload_n dX12_lose_0 rfl ?_
  refine go_callSi (z := MX12_isSheet) [] dX12_lose_1 lX12_83 sX12_isSheet (ev_X12_isSheet _) rfl rfl rfl rfl rfl rfl ?_
  refine go_if_ne 10 dX12_lose_4 (by decide) (fun c_4 => absurd (if_pos hx) c_4) (fun _ => ?_)
  refine go_bipush (-2) dX12_lose_7 (by decide) ?_
  refine go_ireturn dX12_lose_9 rfl rfl (Nat.le_of_ble_eq_true rfl) (Nat.le_of_ble_eq_true rfl) ?_
  exact ⟨rfl, rfl⟩
set_option maxRecDepth 100000 in
theorem ev_mlay_bad (U : TU) (lt : Int32) (B : TB2) (F A : TX) (se : AF) (R : TR) (O : TO) (V : TX) (al : AF) (dr : Int32) (x g i u : Int32) (hx : x < 0 ∨ 3 < x) : Ev MX12_lay [.ref 0, .int x, .int g, .int i, .int u] (mwd U lt B F A se R O V al dr) (Ri (mwd U lt B F A se R O V al dr) (-2)) := by
  refine ev_of bX12_lay [some (.ref 0), some (.int x), some (.int g), some (.int i), some (.int u), none] (Nat.le_of_ble_eq_true rfl) rfl ?_
  refine go_iload_n dX12_lay_0 rfl ?_
  refine go_callSi (z := MX12_isSheet) [] dX12_lay_1 lX12_83 sX12_isSheet (ev_X12_isSheet _) rfl rfl rfl rfl rfl rfl ?_
  refine go_if_eq 19 dX12_lay_4 (by decide) (fun _ => ?_) (fun c_4 => absurd (if_pos hx) c_4)
  refine go_bipush (-2) dX12_lay_19 (by decide) ?_
  refine go_ireturn dX12_lay_21 rfl rfl (Nat.le_of_ble_eq_true rfl) (Nat.le_of_ble_eq_true rfl) ?_
  exact ⟨rfl, rfl⟩
set_option maxRecDepth 100000 in
theorem ev_mget_bad (U : TU) (lt : Int32) (B : TB2) (F A : TX) (se : AF) (R : TR) (O : TO) (V : TX) (al : AF) (dr : Int32) (x g i : Int32) (hx : x < 0 ∨ 3 < x) : Ev MX12_get [.ref 0, .int x, .int g, .int i] (mwd U lt B F A se R O V al dr) (Ri (mwd U lt B F A se R O V al dr) (-2147483648)) := by
  refine ev_of bX12_get [some (.ref 0), some (.int x), some (.int g), some (.int i)] (Nat.le_of_ble_eq_true rfl) rfl ?_
  refine go_iload_n dX12_get_0 rfl ?_
  refine go_callSi (z := MX12_isSheet) [] dX12_get_1 lX12_83 sX12_isSheet (ev_X12_isSheet _) rfl rfl rfl rfl rfl rfl ?_
  refine go_if_eq 29 dX12_get_4 (by decide) (fun _ => ?_) (fun c_4 => absurd (if_pos hx) c_4)
  refine go_ldc dX12_get_29 kX12_101 ?_
  refine go_ireturn dX12_get_31 rfl rfl (Nat.le_of_ble_eq_true rfl) (Nat.le_of_ble_eq_true rfl) ?_
  exact ⟨rfl, rfl⟩
set_option maxRecDepth 100000 in
theorem ev_mread_bad (U : TU) (lt : Int32) (B : TB2) (F A : TX) (se : AF) (R : TR) (O : TO) (V : TX) (al : AF) (dr : Int32) (x : Int32) (hx : x < 0 ∨ 3 < x) : Ev MX12_read [.ref 0, .int x] (mwd U lt B F A se R O V al dr) (Ri (mwd U lt B F A se R O V al dr) (-2)) := by
  refine ev_of bX12_read [some (.ref 0), some (.int x), none, none] (Nat.le_of_ble_eq_true rfl) rfl ?_
  refine go_iload_n dX12_read_0 rfl ?_
  refine go_callSi (z := MX12_isSheet) [] dX12_read_1 lX12_83 sX12_isSheet (ev_X12_isSheet _) rfl rfl rfl rfl rfl rfl ?_
  refine go_if_ne 10 dX12_read_4 (by decide) (fun c_4 => absurd (if_pos hx) c_4) (fun _ => ?_)
  refine go_bipush (-2) dX12_read_7 (by decide) ?_
  refine go_ireturn dX12_read_9 rfl rfl (Nat.le_of_ble_eq_true rfl) (Nat.le_of_ble_eq_true rfl) ?_
  exact ⟨rfl, rfl⟩
set_option maxRecDepth 100000 in
theorem ev_mwrite_bad (U : TU) (lt : Int32) (B : TB2) (F A : TX) (se : AF) (R : TR) (O : TO) (V : TX) (al : AF) (dr : Int32) (x : Int32) (hx : x < 0 ∨ 3 < x) : Ev MX12_write [.ref 0, .int x] (mwd U lt B F A se R O V al dr) (Ri (mwd U lt B F A se R O V al dr) (-2)) := by
  refine ev_of bX12_write [some (.ref 0), some (.int x), none, none] (Nat.le_of_ble_eq_true rfl) rfl ?_
  refine go_iload_n dX12_write_0 rfl ?_
  refine go_callSi (z := MX12_isSheet) [] dX12_write_1 lX12_83 sX12_isSheet (ev_X12_isSheet _) rfl rfl rfl rfl rfl rfl ?_
  refine go_if_ne 10 dX12_write_4 (by decide) (fun c_4 => absurd (if_pos hx) c_4) (fun _ => ?_)
  refine go_bipush (-2) dX12_write_7 (by decide) ?_
  refine go_ireturn dX12_write_9 rfl rfl (Nat.le_of_ble_eq_true rfl) (Nat.le_of_ble_eq_true rfl) ?_
  exact ⟨rfl, rfl⟩
