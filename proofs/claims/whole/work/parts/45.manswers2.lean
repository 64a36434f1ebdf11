theorem in3 {x : Int32} {a b : Int32} {Q : Prop} (h : ¬ (if x < a ∨ b < x then (0 : Int32) else 1) = 0) (hq : ¬ Q) : ¬ (x < a ∨ b < x ∨ Q) := fun q => q.elim (fun q => full_t3 h (Or.inl q)) (fun q => q.elim (fun q => full_t3 h (Or.inr q)) hq)
theorem in3l {x : Int32} {a b : Int32} {Q : Prop} (h : (if x < a ∨ b < x then (0 : Int32) else 1) = 0) : x < a ∨ b < x ∨ Q := (full_t2 h).elim Or.inl (fun q => Or.inr (Or.inl q))
theorem nn2 {P : Prop} (h : P) : ¬ ¬ P := fun q => q h
theorem lt_one {x : Int32} (h : x < 0) : x < 1 := by
  rw [Int32.lt_iff_toInt_lt] at h ⊢
  rw [show ((0 : Int32)).toInt = 0 from rfl] at h
  rw [show ((1 : Int32)).toInt = 1 from rfl]
  omega
set_option maxRecDepth 100000 in
theorem ev_X12_set (U : TU) (lt : Int32) (B : TB2) (F A : TX) (se : AF) (R : TR) (O : TO) (V : TX) (al : AF) (dr : Int32) (x u : Int32) : Ev MX12_set [.ref 0, .int x, .int u] (mwd U lt B F A se R O V al dr) (fun v w => ((x < 0 ∨ 2 < x) ∨ (if x = 1 then (u < 1 ∨ 8 < u) else (u < 0 ∨ 9 < u))) ∧ v = some (.int (-2)) ∧ w = (mwd U lt B F A se R O V al dr) ∨ ¬ ((x < 0 ∨ 2 < x) ∨ (if x = 1 then (u < 1 ∨ 8 < u) else (u < 0 ∨ 9 < u))) ∧ v = some (.int (se x.toNatClampNeg)) ∧ w = (mwd U lt B F A (upd se x.toNatClampNeg u) R O V al dr)) := by
  refine ev_of bX12_set [some (.ref 0), some (.int x), some (.int u), none] (Nat.le_of_ble_eq_true rfl) rfl ?_
  refine go_iload_n dX12_set_0 rfl ?_
  refine go_i2l dX12_set_1 ?_
  refine go_lconst 0 dX12_set_2 (by decide) ?_
  refine go_ldc2_w dX12_set_3 kX12_87 ?_
  refine go_callSi (z := MX12_in) [] dX12_set_6 lX12_73 sX12_in (ev_X12_in (x) (0) (2) _ _ rfl rfl) rfl rfl rfl rfl rfl rfl ?_
  refine go_if_eq 44 dX12_set_9 (by decide) (fun c_9 => ?_) (fun c_9 => ?_)
  · refine go_bipush (-2) dX12_set_44 (by decide) ?_
    refine go_ireturn dX12_set_46 rfl rfl (Nat.le_of_ble_eq_true rfl) (Nat.le_of_ble_eq_true rfl) ?_
    exact Or.inl ⟨Or.inl (full_t2 c_9), rfl, rfl⟩
  · refine go_iload_n dX12_set_12 rfl ?_
    refine go_i2l dX12_set_13 ?_
    by_cases h1 : x = 1
    · refine go_iload_n dX12_set_14 rfl ?_
      refine go_iconst (1) dX12_set_15 (by decide) ?_
      refine go_icmp_ne 23 dX12_set_16 (by decide) (fun c_16 => absurd h1 c_16) (fun _ => ?_)
      refine go_lconst 1 dX12_set_19 (by decide) ?_
      refine go_goto 24 dX12_set_20 (by decide) ?_
      refine go_iload_n dX12_set_24 rfl ?_
      refine go_iconst (1) dX12_set_25 (by decide) ?_
      refine go_icmp_ne 35 dX12_set_26 (by decide) (fun c_26 => absurd h1 c_26) (fun _ => ?_)
      refine go_ldc2_w dX12_set_29 kX12_139 ?_
      refine go_goto 38 dX12_set_32 (by decide) ?_
      refine go_callSi (z := MX12_in) [] dX12_set_38 lX12_73 sX12_in (ev_X12_in (u) (1) (8) _ _ rfl rfl) rfl rfl rfl rfl rfl rfl ?_
      refine go_if_ne 47 dX12_set_41 (by decide) (fun c_41 => ?_) (fun c_41 => ?_)
      · have hin : vp_in x 3 := vin_le (n := 2) c_9 (by decide)
        refine go_aload_n dX12_set_47 rfl ?_
        refine go_getf fX12_34 dX12_set_48 rfl rfl ?_
        refine go_iload_n dX12_set_51 rfl ?_
        refine go_iald dX12_set_52 rfl hin ?_
        refine go_istore_n dX12_set_53 (by decide) ?_
        refine go_aload_n dX12_set_54 rfl ?_
        refine go_getf fX12_34 dX12_set_55 rfl rfl ?_
        refine go_iload_n dX12_set_58 rfl ?_
        refine go_iload_n dX12_set_59 rfl ?_
        refine go_iast dX12_set_60 rfl hin ?_
        refine go_iload_n dX12_set_61 rfl ?_
        refine go_ireturn dX12_set_62 rfl rfl (Nat.le_of_ble_eq_true rfl) (Nat.le_of_ble_eq_true rfl) ?_
        exact Or.inr ⟨fun q => q.elim (full_t3 c_9) (fun q => by rw [if_pos h1] at q; exact full_t3 c_41 q), rfl, rfl⟩
      · refine go_bipush (-2) dX12_set_44 (by decide) ?_
        refine go_ireturn dX12_set_46 rfl rfl (Nat.le_of_ble_eq_true rfl) (Nat.le_of_ble_eq_true rfl) ?_
        exact Or.inl ⟨Or.inr (by rw [if_pos h1]; exact full_t2 c_41), rfl, rfl⟩
    · refine go_iload_n dX12_set_14 rfl ?_
      refine go_iconst (1) dX12_set_15 (by decide) ?_
      refine go_icmp_ne 23 dX12_set_16 (by decide) (fun _ => ?_) (fun c_16 => absurd c_16 h1)
      refine go_lconst 0 dX12_set_23 (by decide) ?_
      refine go_iload_n dX12_set_24 rfl ?_
      refine go_iconst (1) dX12_set_25 (by decide) ?_
      refine go_icmp_ne 35 dX12_set_26 (by decide) (fun _ => ?_) (fun c_26 => absurd c_26 h1)
      refine go_ldc2_w dX12_set_35 kX12_141 ?_
      refine go_callSi (z := MX12_in) [] dX12_set_38 lX12_73 sX12_in (ev_X12_in (u) (0) (9) _ _ rfl rfl) rfl rfl rfl rfl rfl rfl ?_
      refine go_if_ne 47 dX12_set_41 (by decide) (fun c_41 => ?_) (fun c_41 => ?_)
      · have hin : vp_in x 3 := vin_le (n := 2) c_9 (by decide)
        refine go_aload_n dX12_set_47 rfl ?_
        refine go_getf fX12_34 dX12_set_48 rfl rfl ?_
        refine go_iload_n dX12_set_51 rfl ?_
        refine go_iald dX12_set_52 rfl hin ?_
        refine go_istore_n dX12_set_53 (by decide) ?_
        refine go_aload_n dX12_set_54 rfl ?_
        refine go_getf fX12_34 dX12_set_55 rfl rfl ?_
        refine go_iload_n dX12_set_58 rfl ?_
        refine go_iload_n dX12_set_59 rfl ?_
        refine go_iast dX12_set_60 rfl hin ?_
        refine go_iload_n dX12_set_61 rfl ?_
        refine go_ireturn dX12_set_62 rfl rfl (Nat.le_of_ble_eq_true rfl) (Nat.le_of_ble_eq_true rfl) ?_
        exact Or.inr ⟨fun q => q.elim (full_t3 c_9) (fun q => by rw [if_neg h1] at q; exact full_t3 c_41 q), rfl, rfl⟩
      · refine go_bipush (-2) dX12_set_44 (by decide) ?_
        refine go_ireturn dX12_set_46 rfl rfl (Nat.le_of_ble_eq_true rfl) (Nat.le_of_ble_eq_true rfl) ?_
        exact Or.inl ⟨Or.inr (by rw [if_neg h1]; exact full_t2 c_41), rfl, rfl⟩
theorem in_names {x : Int32} {n : Nat} (hn : n < 2 ^ 31) : (if x < 0 ∨ nI n - 1 < x then (0 : Int32) else 1) = (if x < 0 ∨ nI n ≤ x then 0 else 1) := by
  have h := lt_pred hn x
  by_cases q : x < 0 ∨ nI n ≤ x
  · rw [if_pos q, if_pos (q.elim Or.inl (fun q => Or.inr (h.mpr q)))]
  · rw [if_neg q, if_neg (fun z => q (z.elim Or.inl (fun z => Or.inr (h.mp z))))]
set_option maxRecDepth 100000 in
theorem ev_X12_comes (U : TU) (lt : Int32) (B : TB2) (F A : TX) (se : AF) (R : TR) (O : TO) (V : TX) (al : AF) (dr : Int32) (n m s0 gl br : Nat) (ok : MOK B se n m s0 gl br) (x y : Int32) : Ev MX12_comes [.ref 0, .int x, .int y] (mwd U lt B F A se R O V al dr) (fun v w => ∃ (F2 A2 : TX) (R2 : TR), FInv n B.1 F2 ∧ AInv m (fun i => B.1 (48 + i)) A2 ∧ v = some (.int (if (x < 0 ∨ nI A2.1 ≤ x ∨ ¬ (y = 0 ∨ y = 1)) then -2 else if y = 0 then wC F2.1 F2.2 (nmR A2.2) (se 0) (se 1) (se 2) x.toNatClampNeg else wX F2.1 F2.2 (nmR A2.2) (se 0) (se 1) (se 2) x.toNatClampNeg)) ∧ w = (mwd U lt B F2 A2 se R2 O V al dr)) := by
  refine ev_of bX12_comes [some (.ref 0), some (.int x), some (.int y)] (Nat.le_of_ble_eq_true rfl) rfl ?_
  refine go_aload_n dX12_comes_0 rfl ?_
  refine go_callVs (z := MX12_find) dX12_comes_1 lX12_165 sX12_find (ev_X12_find U lt B F A se R O V al dr n m s0 gl br ok) rfl rfl rfl ⟨_, _, rfl⟩ rfl rfl (fun v w1 h => by obtain ⟨-, F2, A2, R2, rfl, -⟩ := h; rfl) (fun v_1 w_1 h_1 => ?_)
  obtain ⟨rfl, F2, A2, R2, rfl, g1, g2, g3⟩ := h_1
  have hF := g1.le ok.hn
  have hA := g2.ok ok.hm
  have hA1 := hA.1
  refine go_iload_n dX12_comes_4 rfl ?_
  refine go_i2l dX12_comes_5 ?_
  refine go_lconst 0 dX12_comes_6 (by decide) ?_
  refine go_aload_n dX12_comes_7 rfl ?_
  refine go_getf fX12_118 dX12_comes_8 rfl rfl ?_
  refine go_iconst (1) dX12_comes_11 (by decide) ?_
  refine go_isub dX12_comes_12 ?_
  refine go_i2l dX12_comes_13 ?_
  refine go_callSi (z := MX12_in) [] dX12_comes_14 lX12_73 sX12_in (ev_X12_in x 0 (nI A2.1 - 1) _ _ rfl rfl) rfl rfl rfl rfl rfl rfl ?_
  rw [in_names (by omega)]
  refine go_if_eq 49 dX12_comes_17 (by decide) (fun c_17 => ?_) (fun c_17 => ?_)
  · refine go_bipush (-2) dX12_comes_49 (by decide) ?_
    refine go_ireturn dX12_comes_51 rfl rfl (Nat.le_of_ble_eq_true rfl) (Nat.le_of_ble_eq_true rfl) ?_
    first
    | exact ⟨F2, A2, R2, g1, g2, vi_nt (show ¬ (x < 0 ∨ nI A2.1 ≤ x ∨ ¬ (y = 0 ∨ y = 1)) from fun q => q.elim (fun q => full_t3 c_17 (Or.inl q)) (fun q => q.elim (fun q => full_t3 c_17 (Or.inr q)) (fun q => q (two_t c_24)))) c_28, rfl⟩
    | exact ⟨F2, A2, R2, g1, g2, vi_nf (show ¬ (x < 0 ∨ nI A2.1 ≤ x ∨ ¬ (y = 0 ∨ y = 1)) from fun q => q.elim (fun q => full_t3 c_17 (Or.inl q)) (fun q => q.elim (fun q => full_t3 c_17 (Or.inr q)) (fun q => q (two_t c_24)))) c_28, rfl⟩
    | exact ⟨F2, A2, R2, g1, g2, vi_pos (Or.inr (Or.inr (two_f c_24))), rfl⟩
    | exact ⟨F2, A2, R2, g1, g2, vi_pos ((full_t2 c_17).elim Or.inl (fun q => Or.inr (Or.inl q))), rfl⟩
  · refine go_iload_n dX12_comes_20 rfl ?_
    refine go_callSi (z := MX12_isTwo) [] dX12_comes_21 lX12_102 sX12_isTwo (ev_X12_isTwo y) rfl rfl rfl rfl rfl rfl ?_
    refine go_if_eq 49 dX12_comes_24 (by decide) (fun c_24 => ?_) (fun c_24 => ?_)
    · refine go_bipush (-2) dX12_comes_49 (by decide) ?_
      refine go_ireturn dX12_comes_51 rfl rfl (Nat.le_of_ble_eq_true rfl) (Nat.le_of_ble_eq_true rfl) ?_
      first
      | exact ⟨F2, A2, R2, g1, g2, vi_nt (show ¬ (x < 0 ∨ nI A2.1 ≤ x ∨ ¬ (y = 0 ∨ y = 1)) from fun q => q.elim (fun q => full_t3 c_17 (Or.inl q)) (fun q => q.elim (fun q => full_t3 c_17 (Or.inr q)) (fun q => q (two_t c_24)))) c_28, rfl⟩
      | exact ⟨F2, A2, R2, g1, g2, vi_nf (show ¬ (x < 0 ∨ nI A2.1 ≤ x ∨ ¬ (y = 0 ∨ y = 1)) from fun q => q.elim (fun q => full_t3 c_17 (Or.inl q)) (fun q => q.elim (fun q => full_t3 c_17 (Or.inr q)) (fun q => q (two_t c_24)))) c_28, rfl⟩
      | exact ⟨F2, A2, R2, g1, g2, vi_pos (Or.inr (Or.inr (two_f c_24))), rfl⟩
      | exact ⟨F2, A2, R2, g1, g2, vi_pos ((full_t2 c_17).elim Or.inl (fun q => Or.inr (Or.inl q))), rfl⟩
    · obtain ⟨hx1, hx2⟩ := in_range (fun q => full_t3 c_17 (Or.inl q)) (fun q => full_t3 c_17 (Or.inr q)) (show A2.1 < 2 ^ 31 by omega)
      have hin : vp_in x 12 := by rw [hx1]; exact vp_in_nI (by omega) (by decide)
      refine go_iload_n dX12_comes_27 rfl ?_
      refine go_if_ne 40 dX12_comes_28 (by decide) (fun c_28 => ?_) (fun c_28 => ?_)
      · refine go_aload_n dX12_comes_40 rfl ?_
        refine go_getf fX12_40 dX12_comes_41 rfl rfl ?_
        refine go_iload_n dX12_comes_44 rfl ?_
        refine go_iald dX12_comes_45 rfl hin ?_
        rw [(g3.1 _ hx2).2]
        refine go_goto 51 dX12_comes_46 (by decide) ?_
        refine go_ireturn dX12_comes_51 rfl rfl (Nat.le_of_ble_eq_true rfl) (Nat.le_of_ble_eq_true rfl) ?_
        first
        | exact ⟨F2, A2, R2, g1, g2, vi_nt (show ¬ (x < 0 ∨ nI A2.1 ≤ x ∨ ¬ (y = 0 ∨ y = 1)) from fun q => q.elim (fun q => full_t3 c_17 (Or.inl q)) (fun q => q.elim (fun q => full_t3 c_17 (Or.inr q)) (fun q => q (two_t c_24)))) c_28, rfl⟩
        | exact ⟨F2, A2, R2, g1, g2, vi_nf (show ¬ (x < 0 ∨ nI A2.1 ≤ x ∨ ¬ (y = 0 ∨ y = 1)) from fun q => q.elim (fun q => full_t3 c_17 (Or.inl q)) (fun q => q.elim (fun q => full_t3 c_17 (Or.inr q)) (fun q => q (two_t c_24)))) c_28, rfl⟩
        | exact ⟨F2, A2, R2, g1, g2, vi_pos (Or.inr (Or.inr (two_f c_24))), rfl⟩
        | exact ⟨F2, A2, R2, g1, g2, vi_pos ((full_t2 c_17).elim Or.inl (fun q => Or.inr (Or.inl q))), rfl⟩
      · refine go_aload_n dX12_comes_31 rfl ?_
        refine go_getf fX12_37 dX12_comes_32 rfl rfl ?_
        refine go_iload_n dX12_comes_35 rfl ?_
        refine go_iald dX12_comes_36 rfl hin ?_
        rw [(g3.1 _ hx2).1]
        refine go_goto 51 dX12_comes_37 (by decide) ?_
        refine go_ireturn dX12_comes_51 rfl rfl (Nat.le_of_ble_eq_true rfl) (Nat.le_of_ble_eq_true rfl) ?_
        first
        | exact ⟨F2, A2, R2, g1, g2, vi_nt (show ¬ (x < 0 ∨ nI A2.1 ≤ x ∨ ¬ (y = 0 ∨ y = 1)) from fun q => q.elim (fun q => full_t3 c_17 (Or.inl q)) (fun q => q.elim (fun q => full_t3 c_17 (Or.inr q)) (fun q => q (two_t c_24)))) c_28, rfl⟩
        | exact ⟨F2, A2, R2, g1, g2, vi_nf (show ¬ (x < 0 ∨ nI A2.1 ≤ x ∨ ¬ (y = 0 ∨ y = 1)) from fun q => q.elim (fun q => full_t3 c_17 (Or.inl q)) (fun q => q.elim (fun q => full_t3 c_17 (Or.inr q)) (fun q => q (two_t c_24)))) c_28, rfl⟩
        | exact ⟨F2, A2, R2, g1, g2, vi_pos (Or.inr (Or.inr (two_f c_24))), rfl⟩
        | exact ⟨F2, A2, R2, g1, g2, vi_pos ((full_t2 c_17).elim Or.inl (fun q => Or.inr (Or.inl q))), rfl⟩
set_option maxRecDepth 100000 in
theorem ev_X12_behind (U : TU) (lt : Int32) (B : TB2) (F A : TX) (se : AF) (R : TR) (O : TO) (V : TX) (al : AF) (dr : Int32) (n m s0 gl br : Nat) (ok : MOK B se n m s0 gl br) (x y : Int32) : Ev MX12_behind [.ref 0, .int x, .int y] (mwd U lt B F A se R O V al dr) (fun v w => ∃ (F2 A2 : TX) (R2 : TR), FInv n B.1 F2 ∧ AInv m (fun i => B.1 (48 + i)) A2 ∧ v = some (.int (if (x < 0 ∨ nI A2.1 < x ∨ ¬ (y = 0 ∨ y = 1)) then -2 else if y = 0 then (wst F2.1 F2.2 (nmR A2.2) (se 0) (se 1) (se 2) x.toNatClampNeg).1 else (wst F2.1 F2.2 (nmR A2.2) (se 0) (se 1) (se 2) x.toNatClampNeg).2)) ∧ w = (mwd U lt B F2 A2 se R2 O V al dr)) := by
  refine ev_of bX12_behind [some (.ref 0), some (.int x), some (.int y)] (Nat.le_of_ble_eq_true rfl) rfl ?_
  refine go_aload_n dX12_behind_0 rfl ?_
  refine go_callVs (z := MX12_find) dX12_behind_1 lX12_165 sX12_find (ev_X12_find U lt B F A se R O V al dr n m s0 gl br ok) rfl rfl rfl ⟨_, _, rfl⟩ rfl rfl (fun v w1 h => by obtain ⟨-, F2, A2, R2, rfl, -⟩ := h; rfl) (fun v_1 w_1 h_1 => ?_)
  obtain ⟨rfl, F2, A2, R2, rfl, g1, g2, g3⟩ := h_1
  have hF := g1.le ok.hn
  have hA := g2.ok ok.hm
  have hA1 := hA.1
  refine go_iload_n dX12_behind_4 rfl ?_
  refine go_i2l dX12_behind_5 ?_
  refine go_lconst 0 dX12_behind_6 (by decide) ?_
  refine go_aload_n dX12_behind_7 rfl ?_
  refine go_getf fX12_118 dX12_behind_8 rfl rfl ?_
  refine go_i2l dX12_behind_11 ?_
  refine go_callSi (z := MX12_in) [] dX12_behind_12 lX12_73 sX12_in (ev_X12_in x 0 (nI A2.1) _ _ rfl rfl) rfl rfl rfl rfl rfl rfl ?_
  refine go_if_eq 34 dX12_behind_15 (by decide) (fun c_15 => ?_) (fun c_15 => ?_)
  · refine go_bipush (-2) dX12_behind_34 (by decide) ?_
    refine go_ireturn dX12_behind_36 rfl rfl (Nat.le_of_ble_eq_true rfl) (Nat.le_of_ble_eq_true rfl) ?_
    first
    | exact ⟨F2, A2, R2, g1, g2, vi_neg (in3 c_15 (nn2 (two_t c_22))), rfl⟩
    | exact ⟨F2, A2, R2, g1, g2, vi_pos (Or.inr (Or.inr (two_f c_22))), rfl⟩
    | exact ⟨F2, A2, R2, g1, g2, vi_pos (in3l c_15), rfl⟩
  · refine go_iload_n dX12_behind_18 rfl ?_
    refine go_callSi (z := MX12_isTwo) [] dX12_behind_19 lX12_102 sX12_isTwo (ev_X12_isTwo y) rfl rfl rfl rfl rfl rfl ?_
    refine go_if_eq 34 dX12_behind_22 (by decide) (fun c_22 => ?_) (fun c_22 => ?_)
    · refine go_bipush (-2) dX12_behind_34 (by decide) ?_
      refine go_ireturn dX12_behind_36 rfl rfl (Nat.le_of_ble_eq_true rfl) (Nat.le_of_ble_eq_true rfl) ?_
      first
      | exact ⟨F2, A2, R2, g1, g2, vi_neg (in3 c_15 (nn2 (two_t c_22))), rfl⟩
      | exact ⟨F2, A2, R2, g1, g2, vi_pos (Or.inr (Or.inr (two_f c_22))), rfl⟩
      | exact ⟨F2, A2, R2, g1, g2, vi_pos (in3l c_15), rfl⟩
    · obtain ⟨hx1, hx2⟩ := in_range (n := A2.1 + 1) (fun q => full_t3 c_15 (Or.inl q)) (fun q => full_t3 c_15 (Or.inr (lt_succ (by omega) q))) (by omega)
      have hcl := ev_X12_behindOf U lt B F2 A2 se R2 O V al dr hA g3 x.toNatClampNeg (by omega) y
      rw [← hx1] at hcl
      refine go_aload_n dX12_behind_25 rfl ?_
      refine go_iload_n dX12_behind_26 rfl ?_
      refine go_iload_n dX12_behind_27 rfl ?_
      refine go_callVsi (z := MX12_behindOf) dX12_behind_28 lX12_168 sX12_behindOf hcl rfl rfl rfl ⟨_, _, rfl⟩ rfl rfl ?_
      refine go_goto 36 dX12_behind_31 (by decide) ?_
      refine go_ireturn dX12_behind_36 rfl rfl (Nat.le_of_ble_eq_true rfl) (Nat.le_of_ble_eq_true rfl) ?_
      first
      | exact ⟨F2, A2, R2, g1, g2, vi_neg (in3 c_15 (nn2 (two_t c_22))), rfl⟩
      | exact ⟨F2, A2, R2, g1, g2, vi_pos (Or.inr (Or.inr (two_f c_22))), rfl⟩
      | exact ⟨F2, A2, R2, g1, g2, vi_pos (in3l c_15), rfl⟩
set_option maxRecDepth 100000 in
theorem ev_X12_alive (U : TU) (lt : Int32) (B : TB2) (F A : TX) (se : AF) (R : TR) (O : TO) (V : TX) (al : AF) (dr : Int32) (n m s0 gl br : Nat) (ok : MOK B se n m s0 gl br) (x y : Int32) : Ev MX12_alive [.ref 0, .int x, .int y] (mwd U lt B F A se R O V al dr) (fun v w => ∃ (F2 A2 : TX) (R2 : TR), FInv n B.1 F2 ∧ AInv m (fun i => B.1 (48 + i)) A2 ∧ v = some (.long (if (x < 0 ∨ nI A2.1 < x ∨ ¬ (y = 0 ∨ y = 1)) then badL else tolL (aW F2.1 F2.2 (nmR A2.2) (se 0) (nI gl) (se 2) (x.toNatClampNeg)) (4 * kW F2.1 F2.2 (nmR A2.2) (se 0) (nI gl) (se 2) (x.toNatClampNeg)) y)) ∧ w = (mwd U lt B F2 A2 se R2 O V al dr)) := by
  refine ev_of bX12_alive [some (.ref 0), some (.int x), some (.int y)] (Nat.le_of_ble_eq_true rfl) rfl ?_
  refine go_aload_n dX12_alive_0 rfl ?_
  refine go_callVs (z := MX12_find) dX12_alive_1 lX12_165 sX12_find (ev_X12_find U lt B F A se R O V al dr n m s0 gl br ok) rfl rfl rfl ⟨_, _, rfl⟩ rfl rfl (fun v w1 h => by obtain ⟨-, F2, A2, R2, rfl, -⟩ := h; rfl) (fun v_1 w_1 h_1 => ?_)
  obtain ⟨rfl, F2, A2, R2, rfl, g1, g2, g3⟩ := h_1
  have hF := g1.le ok.hn
  have hA := g2.ok ok.hm
  have hA1 := hA.1
  refine go_iload_n dX12_alive_4 rfl ?_
  refine go_i2l dX12_alive_5 ?_
  refine go_lconst 0 dX12_alive_6 (by decide) ?_
  refine go_aload_n dX12_alive_7 rfl ?_
  refine go_getf fX12_118 dX12_alive_8 rfl rfl ?_
  refine go_i2l dX12_alive_11 ?_
  refine go_callSi (z := MX12_in) [] dX12_alive_12 lX12_73 sX12_in (ev_X12_in x 0 (nI A2.1) _ _ rfl rfl) rfl rfl rfl rfl rfl rfl ?_
  refine go_if_eq 37 dX12_alive_15 (by decide) (fun c_15 => ?_) (fun c_15 => ?_)
  · refine go_bipush (-2) dX12_alive_37 (by decide) ?_
    refine go_callSj (z := MX12_no) [] dX12_alive_39 lX12_185 sX12_no (ev_X12_no (-2)) rfl rfl rfl rfl rfl rfl ?_
    refine go_lreturn dX12_alive_42 rfl (Nat.le_of_ble_eq_true rfl) (Nat.le_of_ble_eq_true rfl) ?_
    first
    | exact ⟨F2, A2, R2, g1, g2, vl_neg (in3 c_15 (nn2 (two_t c_22))), rfl⟩
    | exact ⟨F2, A2, R2, g1, g2, vl_pos (Or.inr (Or.inr (two_f c_22))), rfl⟩
    | exact ⟨F2, A2, R2, g1, g2, vl_pos (in3l c_15), rfl⟩
  · refine go_iload_n dX12_alive_18 rfl ?_
    refine go_callSi (z := MX12_isTwo) [] dX12_alive_19 lX12_102 sX12_isTwo (ev_X12_isTwo y) rfl rfl rfl rfl rfl rfl ?_
    refine go_if_eq 37 dX12_alive_22 (by decide) (fun c_22 => ?_) (fun c_22 => ?_)
    · refine go_bipush (-2) dX12_alive_37 (by decide) ?_
      refine go_callSj (z := MX12_no) [] dX12_alive_39 lX12_185 sX12_no (ev_X12_no (-2)) rfl rfl rfl rfl rfl rfl ?_
      refine go_lreturn dX12_alive_42 rfl (Nat.le_of_ble_eq_true rfl) (Nat.le_of_ble_eq_true rfl) ?_
      first
      | exact ⟨F2, A2, R2, g1, g2, vl_neg (in3 c_15 (nn2 (two_t c_22))), rfl⟩
      | exact ⟨F2, A2, R2, g1, g2, vl_pos (Or.inr (Or.inr (two_f c_22))), rfl⟩
      | exact ⟨F2, A2, R2, g1, g2, vl_pos (in3l c_15), rfl⟩
    · obtain ⟨hx1, hx2⟩ := in_range (n := A2.1 + 1) (fun q => full_t3 c_15 (Or.inl q)) (fun q => full_t3 c_15 (Or.inr (lt_succ (by omega) q))) (by omega)
      have hcl := ev_X12_aliveOf U lt B F2 A2 se R2 O V al dr hA g3 gl ok.h8 ok.e1 x.toNatClampNeg (by omega)
      rw [← hx1] at hcl
      have hk := (kW_ok F2.1 F2.2 (nmR A2.2) (se 0) (se 2) gl ok.h8 x.toNatClampNeg).2
      have hk8 := ok.h8
      have hlt := sc_lt (show kW F2.1 F2.2 (nmR A2.2) (se 0) (nI gl) (se 2) (x.toNatClampNeg) ≤ 8 by omega) (aW_ok F2.1 F2.2 (nmR A2.2) (se 0) (se 2) gl ok.h8 x.toNatClampNeg).2
      refine go_aload_n dX12_alive_25 rfl ?_
      refine go_iload_n dX12_alive_26 rfl ?_
      refine go_callVsj (z := MX12_aliveOf) dX12_alive_27 lX12_177 sX12_aliveOf (hcl) rfl rfl rfl ⟨_, _, rfl⟩ rfl rfl ?_
      refine go_iload_n dX12_alive_30 rfl ?_
      refine go_callSj (z := MX12_tells) [] dX12_alive_31 lX12_181 sX12_tells (ev_X12_tells (aW F2.1 F2.2 (nmR A2.2) (se 0) (nI gl) (se 2) (x.toNatClampNeg)) (4 * kW F2.1 F2.2 (nmR A2.2) (se 0) (nI gl) (se 2) (x.toNatClampNeg)) (by omega) hlt y) rfl rfl rfl rfl rfl rfl ?_
      refine go_goto 42 dX12_alive_34 (by decide) ?_
      refine go_lreturn dX12_alive_42 rfl (Nat.le_of_ble_eq_true rfl) (Nat.le_of_ble_eq_true rfl) ?_
      first
      | exact ⟨F2, A2, R2, g1, g2, vl_neg (in3 c_15 (nn2 (two_t c_22))), rfl⟩
      | exact ⟨F2, A2, R2, g1, g2, vl_pos (Or.inr (Or.inr (two_f c_22))), rfl⟩
      | exact ⟨F2, A2, R2, g1, g2, vl_pos (in3l c_15), rfl⟩
set_option maxRecDepth 100000 in
theorem ev_X12_lives (U : TU) (lt : Int32) (B : TB2) (F A : TX) (se : AF) (R : TR) (O : TO) (V : TX) (al : AF) (dr : Int32) (n m s0 gl br : Nat) (ok : MOK B se n m s0 gl br) (y : Int32) : Ev MX12_lives [.ref 0, .int y] (mwd U lt B F A se R O V al dr) (fun v w => ∃ (F2 A2 : TX) (R2 : TR), FInv n B.1 F2 ∧ AInv m (fun i => B.1 (48 + i)) A2 ∧ v = some (.long (if ¬ (y = 0 ∨ y = 1) then badL else tolL (lvW F2.1 F2.2 (nmR A2.2) (se 0) gl (se 2) A2.1) (4 * gl) y)) ∧ w = (mwd U lt B F2 A2 se R2 O V al dr)) := by
  refine ev_of bX12_lives [some (.ref 0), some (.int y)] (Nat.le_of_ble_eq_true rfl) rfl ?_
  refine go_aload_n dX12_lives_0 rfl ?_
  refine go_callVs (z := MX12_find) dX12_lives_1 lX12_165 sX12_find (ev_X12_find U lt B F A se R O V al dr n m s0 gl br ok) rfl rfl rfl ⟨_, _, rfl⟩ rfl rfl (fun v w1 h => by obtain ⟨-, F2, A2, R2, rfl, -⟩ := h; rfl) (fun v_1 w_1 h_1 => ?_)
  obtain ⟨rfl, F2, A2, R2, rfl, g1, g2, g3⟩ := h_1
  have hF := g1.le ok.hn
  have hA := g2.ok ok.hm
  have hA1 := hA.1
  refine go_iload_n dX12_lives_4 rfl ?_
  refine go_callSi (z := MX12_isTwo) [] dX12_lives_5 lX12_102 sX12_isTwo (ev_X12_isTwo y) rfl rfl rfl rfl rfl rfl ?_
  refine go_if_eq 22 dX12_lives_8 (by decide) (fun c_8 => ?_) (fun c_8 => ?_)
  · refine go_bipush (-2) dX12_lives_22 (by decide) ?_
    refine go_callSj (z := MX12_no) [] dX12_lives_24 lX12_185 sX12_no (ev_X12_no (-2)) rfl rfl rfl rfl rfl rfl ?_
    refine go_lreturn dX12_lives_27 rfl (Nat.le_of_ble_eq_true rfl) (Nat.le_of_ble_eq_true rfl) ?_
    first
    | exact ⟨F2, A2, R2, g1, g2, vl_neg (nn2 (two_t c_8)), rfl⟩
    | exact ⟨F2, A2, R2, g1, g2, vl_pos (two_f c_8), rfl⟩
  · refine go_aload_n dX12_lives_11 rfl ?_
    refine go_callVsj (z := MX12_livesNow) dX12_lives_12 lX12_188 sX12_livesNow (ev_X12_livesNow U lt B F2 A2 se R2 O V al dr hA g3 gl ok.h8 ok.e1) rfl rfl rfl ⟨_, _, rfl⟩ rfl rfl ?_
    refine go_iload_n dX12_lives_15 rfl ?_
    refine go_callSj (z := MX12_tells) [] dX12_lives_16 lX12_181 sX12_tells (ev_X12_tells (lvW F2.1 F2.2 (nmR A2.2) (se 0) gl (se 2) A2.1) (4 * gl) (by have := ok.h8; omega) (sc_lt ok.h8 (lvW_ok F2.1 F2.2 (nmR A2.2) (se 0) (se 2) gl ok.h8 A2.1).2) y) rfl rfl rfl rfl rfl rfl ?_
    refine go_goto 27 dX12_lives_19 (by decide) ?_
    refine go_lreturn dX12_lives_27 rfl (Nat.le_of_ble_eq_true rfl) (Nat.le_of_ble_eq_true rfl) ?_
    first
    | exact ⟨F2, A2, R2, g1, g2, vl_neg (nn2 (two_t c_8)), rfl⟩
    | exact ⟨F2, A2, R2, g1, g2, vl_pos (two_f c_8), rfl⟩
set_option maxRecDepth 100000 in
theorem ev_X12_harm (U : TU) (lt : Int32) (B : TB2) (F A : TX) (se : AF) (R : TR) (O : TO) (V : TX) (al : AF) (dr : Int32) (n m s0 gl br : Nat) (ok : MOK B se n m s0 gl br) (y : Int32) : Ev MX12_harm [.ref 0, .int y] (mwd U lt B F A se R O V al dr) (fun v w => ∃ (F2 A2 : TX) (R2 : TR), FInv n B.1 F2 ∧ AInv m (fun i => B.1 (48 + i)) A2 ∧ v = some (.long (if ¬ (y = 0 ∨ y = 1) then badL else tolL (hW F2.1 F2.2 (nmR A2.2) (se 0) (nI gl) (se 2) A2.1) 32 y)) ∧ w = (mwd U lt B F2 A2 se R2 O V al dr)) := by
  refine ev_of bX12_harm [some (.ref 0), some (.int y)] (Nat.le_of_ble_eq_true rfl) rfl ?_
  refine go_aload_n dX12_harm_0 rfl ?_
  refine go_callVs (z := MX12_find) dX12_harm_1 lX12_165 sX12_find (ev_X12_find U lt B F A se R O V al dr n m s0 gl br ok) rfl rfl rfl ⟨_, _, rfl⟩ rfl rfl (fun v w1 h => by obtain ⟨-, F2, A2, R2, rfl, -⟩ := h; rfl) (fun v_1 w_1 h_1 => ?_)
  obtain ⟨rfl, F2, A2, R2, rfl, g1, g2, g3⟩ := h_1
  have hF := g1.le ok.hn
  have hA := g2.ok ok.hm
  have hA1 := hA.1
  refine go_iload_n dX12_harm_4 rfl ?_
  refine go_callSi (z := MX12_isTwo) [] dX12_harm_5 lX12_102 sX12_isTwo (ev_X12_isTwo y) rfl rfl rfl rfl rfl rfl ?_
  refine go_if_eq 22 dX12_harm_8 (by decide) (fun c_8 => ?_) (fun c_8 => ?_)
  · refine go_bipush (-2) dX12_harm_22 (by decide) ?_
    refine go_callSj (z := MX12_no) [] dX12_harm_24 lX12_185 sX12_no (ev_X12_no (-2)) rfl rfl rfl rfl rfl rfl ?_
    refine go_lreturn dX12_harm_27 rfl (Nat.le_of_ble_eq_true rfl) (Nat.le_of_ble_eq_true rfl) ?_
    first
    | exact ⟨F2, A2, R2, g1, g2, vl_neg (nn2 (two_t c_8)), rfl⟩
    | exact ⟨F2, A2, R2, g1, g2, vl_pos (two_f c_8), rfl⟩
  · have hcl := ev_X12_harmNow U lt B F2 A2 se R2 O V al dr hA g3 gl ok.h8 ok.e1
    rw [show hW F2.1 F2.2 (nmR A2.2) (se 0) (nI gl) (se 2) A2.1 = hW F2.1 F2.2 (nmR A2.2) (se 0) (nI gl) (se 2) A2.1 * 2 ^ (32 - 32) from (Nat.mul_one _).symm] at hcl
    have hlt : hW F2.1 F2.2 (nmR A2.2) (se 0) (nI gl) (se 2) A2.1 * 2 ^ (32 - 32) < 2 ^ 62 := by
      have := (hW_ok F2.1 F2.2 (nmR A2.2) (se 0) (se 2) gl ok.h8 A2.1).2
      rw [show 2 ^ (32 - 32) = 1 from rfl, Nat.mul_one]
      omega
    refine go_aload_n dX12_harm_11 rfl ?_
    refine go_callVsj (z := MX12_harmNow) dX12_harm_12 lX12_195 sX12_harmNow (hcl) rfl rfl rfl ⟨_, _, rfl⟩ rfl rfl ?_
    refine go_iload_n dX12_harm_15 rfl ?_
    refine go_callSj (z := MX12_tells) [] dX12_harm_16 lX12_181 sX12_tells (ev_X12_tells (hW F2.1 F2.2 (nmR A2.2) (se 0) (nI gl) (se 2) A2.1) 32 (by omega) hlt y) rfl rfl rfl rfl rfl rfl ?_
    refine go_goto 27 dX12_harm_19 (by decide) ?_
    refine go_lreturn dX12_harm_27 rfl (Nat.le_of_ble_eq_true rfl) (Nat.le_of_ble_eq_true rfl) ?_
    first
    | exact ⟨F2, A2, R2, g1, g2, vl_neg (nn2 (two_t c_8)), rfl⟩
    | exact ⟨F2, A2, R2, g1, g2, vl_pos (two_f c_8), rfl⟩
set_option maxRecDepth 100000 in
theorem ev_X12_worst (U : TU) (lt : Int32) (B : TB2) (F A : TX) (se : AF) (R : TR) (O : TO) (V : TX) (al : AF) (dr : Int32) (n m s0 gl br : Nat) (ok : MOK B se n m s0 gl br) : Ev MX12_worst [.ref 0] (mwd U lt B F A se R O V al dr) (fun v w => ∃ (F2 A2 : TX) (R2 : TR), FInv n B.1 F2 ∧ AInv m (fun i => B.1 (48 + i)) A2 ∧ v = some (.int (fwI (wX F2.1 F2.2 (nmR A2.2) (se 0) (se 1) (se 2)) A2.1).1) ∧ w = (mwd U lt B F2 A2 se R2 O V al dr)) := by
  refine ev_of bX12_worst [some (.ref 0)] (Nat.le_of_ble_eq_true rfl) rfl ?_
  refine go_aload_n dX12_worst_0 rfl ?_
  refine go_callVs (z := MX12_find) dX12_worst_1 lX12_165 sX12_find (ev_X12_find U lt B F A se R O V al dr n m s0 gl br ok) rfl rfl rfl ⟨_, _, rfl⟩ rfl rfl (fun v w1 h => by obtain ⟨-, F2, A2, R2, rfl, -⟩ := h; rfl) (fun v_1 w_1 h_1 => ?_)
  obtain ⟨rfl, F2, A2, R2, rfl, g1, g2, g3⟩ := h_1
  have hF := g1.le ok.hn
  have hA := g2.ok ok.hm
  have hA1 := hA.1
  refine go_aload_n dX12_worst_4 rfl ?_
  refine go_callVsi (z := MX12_worstNow) dX12_worst_5 lX12_198 sX12_worstNow (ev_X12_worstNow U lt B F2 A2 se R2 O V al dr hA g3) rfl rfl rfl ⟨_, _, rfl⟩ rfl rfl ?_
  refine go_ireturn dX12_worst_8 rfl rfl (Nat.le_of_ble_eq_true rfl) (Nat.le_of_ble_eq_true rfl) ?_
  exact ⟨F2, A2, R2, g1, g2, rfl, rfl⟩
set_option maxRecDepth 100000 in
theorem ev_X12_fate (U : TU) (lt : Int32) (B : TB2) (F A : TX) (se : AF) (R : TR) (O : TO) (V : TX) (al : AF) (dr : Int32) (n m s0 gl br : Nat) (ok : MOK B se n m s0 gl br) (x : Int32) : Ev MX12_fate [.ref 0, .int x] (mwd U lt B F A se R O V al dr) (fun v w => ∃ (F2 A2 : TX) (R2 : TR), FInv n B.1 F2 ∧ AInv m (fun i => B.1 (48 + i)) A2 ∧ v = some (.int (if (x < 0 ∨ nI F2.1 ≤ x) then -2 else wF F2.1 F2.2 (nmR A2.2) (se 0) (se 1) (se 2) A2.1 x.toNatClampNeg)) ∧ w = (mwd U lt B F2 A2 se R2 O V al dr)) := by
  refine ev_of bX12_fate [some (.ref 0), some (.int x)] (Nat.le_of_ble_eq_true rfl) rfl ?_
  refine go_aload_n dX12_fate_0 rfl ?_
  refine go_callVs (z := MX12_find) dX12_fate_1 lX12_165 sX12_find (ev_X12_find U lt B F A se R O V al dr n m s0 gl br ok) rfl rfl rfl ⟨_, _, rfl⟩ rfl rfl (fun v w1 h => by obtain ⟨-, F2, A2, R2, rfl, -⟩ := h; rfl) (fun v_1 w_1 h_1 => ?_)
  obtain ⟨rfl, F2, A2, R2, rfl, g1, g2, g3⟩ := h_1
  have hF := g1.le ok.hn
  have hA := g2.ok ok.hm
  have hA1 := hA.1
  refine go_aload_n dX12_fate_4 rfl ?_
  refine go_iload_n dX12_fate_5 rfl ?_
  refine go_callVsi (z := MX12_isFelon) dX12_fate_6 lX12_132 sX12_isFelon (ev_X12_isFelon U lt B F2 A2 se R2 O V al dr hF x) rfl rfl rfl ⟨_, _, rfl⟩ rfl rfl ?_
  refine go_if_eq 20 dX12_fate_9 (by decide) (fun c_9 => ?_) (fun c_9 => ?_)
  · refine go_bipush (-2) dX12_fate_20 (by decide) ?_
    refine go_ireturn dX12_fate_22 rfl rfl (Nat.le_of_ble_eq_true rfl) (Nat.le_of_ble_eq_true rfl) ?_
    first
    | exact ⟨F2, A2, R2, g1, g2, vi_neg (full_t3 c_9), rfl⟩
    | exact ⟨F2, A2, R2, g1, g2, vi_pos (full_t2 c_9), rfl⟩
  · obtain ⟨hx1, hx2⟩ := in_range (fun q => full_t3 c_9 (Or.inl q)) (fun q => full_t3 c_9 (Or.inr q)) (show F2.1 < 2 ^ 31 by omega)
    have hcl := ev_X12_fateOf U lt B F2 A2 se R2 O V al dr hA g3 x.toNatClampNeg (by omega)
    rw [← hx1] at hcl
    refine go_aload_n dX12_fate_12 rfl ?_
    refine go_iload_n dX12_fate_13 rfl ?_
    refine go_callVsi (z := MX12_fateOf) dX12_fate_14 lX12_201 sX12_fateOf (hcl) rfl rfl rfl ⟨_, _, rfl⟩ rfl rfl ?_
    refine go_goto 22 dX12_fate_17 (by decide) ?_
    refine go_ireturn dX12_fate_22 rfl rfl (Nat.le_of_ble_eq_true rfl) (Nat.le_of_ble_eq_true rfl) ?_
    first
    | exact ⟨F2, A2, R2, g1, g2, vi_neg (full_t3 c_9), rfl⟩
    | exact ⟨F2, A2, R2, g1, g2, vi_pos (full_t2 c_9), rfl⟩
set_option maxRecDepth 100000 in
theorem ev_X12_chain (U : TU) (lt : Int32) (B : TB2) (F A : TX) (se : AF) (R : TR) (O : TO) (V : TX) (al : AF) (dr : Int32) (n m s0 gl br : Nat) (ok : MOK B se n m s0 gl br) (x : Int32) : Ev MX12_chain [.ref 0, .int x] (mwd U lt B F A se R O V al dr) (fun v w => ∃ (F2 A2 : TX) (R2 : TR), FInv n B.1 F2 ∧ AInv m (fun i => B.1 (48 + i)) A2 ∧ v = some (.int (if (x < 0 ∨ nI F2.1 ≤ x) then -2 else nI (chnN F2.1 F2.2 8 0 x))) ∧ w = (mwd U lt B F2 A2 se R2 O V al dr)) := by
  refine ev_of bX12_chain [some (.ref 0), some (.int x)] (Nat.le_of_ble_eq_true rfl) rfl ?_
  refine go_aload_n dX12_chain_0 rfl ?_
  refine go_callVs (z := MX12_find) dX12_chain_1 lX12_165 sX12_find (ev_X12_find U lt B F A se R O V al dr n m s0 gl br ok) rfl rfl rfl ⟨_, _, rfl⟩ rfl rfl (fun v w1 h => by obtain ⟨-, F2, A2, R2, rfl, -⟩ := h; rfl) (fun v_1 w_1 h_1 => ?_)
  obtain ⟨rfl, F2, A2, R2, rfl, g1, g2, g3⟩ := h_1
  have hF := g1.le ok.hn
  have hA := g2.ok ok.hm
  have hA1 := hA.1
  refine go_aload_n dX12_chain_4 rfl ?_
  refine go_iload_n dX12_chain_5 rfl ?_
  refine go_callVsi (z := MX12_isFelon) dX12_chain_6 lX12_132 sX12_isFelon (ev_X12_isFelon U lt B F2 A2 se R2 O V al dr hF x) rfl rfl rfl ⟨_, _, rfl⟩ rfl rfl ?_
  refine go_if_eq 20 dX12_chain_9 (by decide) (fun c_9 => ?_) (fun c_9 => ?_)
  · refine go_bipush (-2) dX12_chain_20 (by decide) ?_
    refine go_ireturn dX12_chain_22 rfl rfl (Nat.le_of_ble_eq_true rfl) (Nat.le_of_ble_eq_true rfl) ?_
    first
    | exact ⟨F2, A2, R2, g1, g2, vi_neg (full_t3 c_9), rfl⟩
    | exact ⟨F2, A2, R2, g1, g2, vi_pos (full_t2 c_9), rfl⟩
  · refine go_aload_n dX12_chain_12 rfl ?_
    refine go_iload_n dX12_chain_13 rfl ?_
    refine go_callVsi (z := MX12_chainOf) dX12_chain_14 lX12_237 sX12_chainOf (ev_X12_chainOf U lt B F2 A2 se R2 O V al dr hF x) rfl rfl rfl ⟨_, _, rfl⟩ rfl rfl ?_
    refine go_goto 22 dX12_chain_17 (by decide) ?_
    refine go_ireturn dX12_chain_22 rfl rfl (Nat.le_of_ble_eq_true rfl) (Nat.le_of_ble_eq_true rfl) ?_
    first
    | exact ⟨F2, A2, R2, g1, g2, vi_neg (full_t3 c_9), rfl⟩
    | exact ⟨F2, A2, R2, g1, g2, vi_pos (full_t2 c_9), rfl⟩
set_option maxRecDepth 100000 in
theorem ev_X12_kinds (U : TU) (lt : Int32) (B : TB2) (F A : TX) (se : AF) (R : TR) (O : TO) (V : TX) (al : AF) (dr : Int32) (n m s0 gl br : Nat) (ok : MOK B se n m s0 gl br) (hV : VOK V) (x : Int32) : Ev MX12_kinds [.ref 0, .int x] (mwd U lt B F A se R O V al dr) (fun v w => ∃ (F2 A2 : TX) (R2 : TR), FInv n B.1 F2 ∧ AInv m (fun i => B.1 (48 + i)) A2 ∧ v = some (.int (if (x < 0 ∨ nI F2.1 ≤ x) then -2 else nI (brbN (fun v => seenB F2.1 (upd F2.2 (5 * x.toNatClampNeg) (nI v)) (nmR A2.2) (se 0) (se 1) (se 2) A2.1 (SV V)) 4))) ∧ w = (mwd U lt B F2 A2 se R2 O V al dr)) := by
  refine ev_of bX12_kinds [some (.ref 0), some (.int x)] (Nat.le_of_ble_eq_true rfl) rfl ?_
  refine go_aload_n dX12_kinds_0 rfl ?_
  refine go_callVs (z := MX12_find) dX12_kinds_1 lX12_165 sX12_find (ev_X12_find U lt B F A se R O V al dr n m s0 gl br ok) rfl rfl rfl ⟨_, _, rfl⟩ rfl rfl (fun v w1 h => by obtain ⟨-, F2, A2, R2, rfl, -⟩ := h; rfl) (fun v_1 w_1 h_1 => ?_)
  obtain ⟨rfl, F2, A2, R2, rfl, g1, g2, g3⟩ := h_1
  have hF := g1.le ok.hn
  have hA := g2.ok ok.hm
  have hA1 := hA.1
  refine go_aload_n dX12_kinds_4 rfl ?_
  refine go_iload_n dX12_kinds_5 rfl ?_
  refine go_callVsi (z := MX12_isFelon) dX12_kinds_6 lX12_132 sX12_isFelon (ev_X12_isFelon U lt B F2 A2 se R2 O V al dr hF x) rfl rfl rfl ⟨_, _, rfl⟩ rfl rfl ?_
  refine go_if_eq 20 dX12_kinds_9 (by decide) (fun c_9 => ?_) (fun c_9 => ?_)
  · refine go_bipush (-2) dX12_kinds_20 (by decide) ?_
    refine go_ireturn dX12_kinds_22 rfl rfl (Nat.le_of_ble_eq_true rfl) (Nat.le_of_ble_eq_true rfl) ?_
    first
    | exact ⟨F2, A2, R3, g1, g2, vi_neg (full_t3 c_9), rfl⟩
    | exact ⟨F2, A2, R2, g1, g2, vi_pos (full_t2 c_9), rfl⟩
  · obtain ⟨hx1, hx2⟩ := in_range (fun q => full_t3 c_9 (Or.inl q)) (fun q => full_t3 c_9 (Or.inr q)) (show F2.1 < 2 ^ 31 by omega)
    have hcl := ev_X12_kindsOf U lt B F2 A2 se R2 O V al dr hF hA s0 ok.h9 ok.e0 hV x.toNatClampNeg hx2
    rw [← hx1] at hcl
    refine go_aload_n dX12_kinds_12 rfl ?_
    refine go_iload_n dX12_kinds_13 rfl ?_
    refine go_callVs (z := MX12_kindsOf) dX12_kinds_14 lX12_253 sX12_kindsOf (hcl) rfl rfl rfl ⟨_, _, rfl⟩ rfl rfl (fun v w1 h => by obtain ⟨-, R3, rfl, -⟩ := h; rfl) (fun v_14 w_14 h_14 => ?_)
    obtain ⟨rfl, R3, rfl, -⟩ := h_14
    refine go_goto 22 dX12_kinds_17 (by decide) ?_
    refine go_ireturn dX12_kinds_22 rfl rfl (Nat.le_of_ble_eq_true rfl) (Nat.le_of_ble_eq_true rfl) ?_
    first
    | exact ⟨F2, A2, R3, g1, g2, vi_neg (full_t3 c_9), rfl⟩
    | exact ⟨F2, A2, R2, g1, g2, vi_pos (full_t2 c_9), rfl⟩
set_option maxRecDepth 100000 in
theorem ev_X12_price (U : TU) (lt : Int32) (B : TB2) (F A : TX) (se : AF) (R : TR) (O : TO) (V : TX) (al : AF) (dr : Int32) (n m s0 gl br : Nat) (ok : MOK B se n m s0 gl br) : Ev MX12_price [.ref 0] (mwd U lt B F A se R O V al dr) (fun v w => ∃ (F2 A2 : TX) (R2 : TR), FInv n B.1 F2 ∧ AInv m (fun i => B.1 (48 + i)) A2 ∧ v = some (.int (prcI (fun v => lvI F2.1 F2.2 (nmR A2.2) (se 0) (se 1) (nI v) A2.1) 10).1) ∧ w = (mwd U lt B F2 A2 se R2 O V al dr)) := by
  refine ev_of bX12_price [some (.ref 0)] (Nat.le_of_ble_eq_true rfl) rfl ?_
  refine go_aload_n dX12_price_0 rfl ?_
  refine go_callVs (z := MX12_find) dX12_price_1 lX12_165 sX12_find (ev_X12_find U lt B F A se R O V al dr n m s0 gl br ok) rfl rfl rfl ⟨_, _, rfl⟩ rfl rfl (fun v w1 h => by obtain ⟨-, F2, A2, R2, rfl, -⟩ := h; rfl) (fun v_1 w_1 h_1 => ?_)
  obtain ⟨rfl, F2, A2, R2, rfl, g1, g2, g3⟩ := h_1
  have hF := g1.le ok.hn
  have hA := g2.ok ok.hm
  have hA1 := hA.1
  refine go_aload_n dX12_price_4 rfl ?_
  refine go_callVs (z := MX12_priceNow) dX12_price_5 lX12_231 sX12_priceNow (ev_X12_priceNow U lt B F2 A2 se R2 O V al dr hF hA s0 ok.h9 ok.e0 gl ok.h8 ok.e1) rfl rfl rfl ⟨_, _, rfl⟩ rfl rfl (fun v w1 h => by obtain ⟨-, R3, rfl, -⟩ := h; rfl) (fun v_5 w_5 h_5 => ?_)
  obtain ⟨rfl, R3, rfl, -⟩ := h_5
  refine go_ireturn dX12_price_8 rfl rfl (Nat.le_of_ble_eq_true rfl) (Nat.le_of_ble_eq_true rfl) ?_
  exact ⟨F2, A2, R3, g1, g2, rfl, rfl⟩
set_option maxRecDepth 100000 in
theorem ev_X12_bribes (U : TU) (lt : Int32) (B : TB2) (F A : TX) (se : AF) (R : TR) (O : TO) (V : TX) (al : AF) (dr : Int32) (n m s0 gl br : Nat) (ok : MOK B se n m s0 gl br) (hV : VOK V) : Ev MX12_bribes [.ref 0] (mwd U lt B F A se R O V al dr) (fun v w => ∃ (F2 A2 : TX) (R2 : TR), FInv n B.1 F2 ∧ AInv m (fun i => B.1 (48 + i)) A2 ∧ v = some (.int (nI (brbN (fun v => seenB F2.1 F2.2 (nmR A2.2) (se 0) (se 1) (nI v) A2.1 (SV V)) 10))) ∧ w = (mwd U lt B F2 A2 se R2 O V al dr)) := by
  refine ev_of bX12_bribes [some (.ref 0)] (Nat.le_of_ble_eq_true rfl) rfl ?_
  refine go_aload_n dX12_bribes_0 rfl ?_
  refine go_callVs (z := MX12_find) dX12_bribes_1 lX12_165 sX12_find (ev_X12_find U lt B F A se R O V al dr n m s0 gl br ok) rfl rfl rfl ⟨_, _, rfl⟩ rfl rfl (fun v w1 h => by obtain ⟨-, F2, A2, R2, rfl, -⟩ := h; rfl) (fun v_1 w_1 h_1 => ?_)
  obtain ⟨rfl, F2, A2, R2, rfl, g1, g2, g3⟩ := h_1
  have hF := g1.le ok.hn
  have hA := g2.ok ok.hm
  have hA1 := hA.1
  refine go_aload_n dX12_bribes_4 rfl ?_
  refine go_callVs (z := MX12_bribesNow) dX12_bribes_5 lX12_250 sX12_bribesNow (ev_X12_bribesNow U lt B F2 A2 se R2 O V al dr hF hA s0 ok.h9 ok.e0 hV) rfl rfl rfl ⟨_, _, rfl⟩ rfl rfl (fun v w1 h => by obtain ⟨-, R3, rfl, -⟩ := h; rfl) (fun v_5 w_5 h_5 => ?_)
  obtain ⟨rfl, R3, rfl, -⟩ := h_5
  refine go_ireturn dX12_bribes_8 rfl rfl (Nat.le_of_ble_eq_true rfl) (Nat.le_of_ble_eq_true rfl) ?_
  exact ⟨F2, A2, R3, g1, g2, rfl, rfl⟩
set_option maxRecDepth 100000 in
theorem ev_X12_ask (U : TU) (lt : Int32) (B : TB2) (F A : TX) (se : AF) (R : TR) (O : TO) (V : TX) (al : AF) (dr : Int32) (n m s0 gl br : Nat) (ok : MOK B se n m s0 gl br) (hV : VOK V) : Ev MX12_ask [.ref 0] (mwd U lt B F A se R O V al dr) (fun v w => ∃ (F2 A2 : TX) (R2 : TR) (al2 : AF), FInv n B.1 F2 ∧ AInv m (fun i => B.1 (48 + i)) A2 ∧ v = some (.int (askI (fun f => mxE (fun e => tlC (fun v => seenB F2.1 F2.2 (nmR A2.2) (se 0) (se 1) (nI v) A2.1 (SV V)) (fun b f => wF F2.1 F2.2 (nmR A2.2) (se 0) (se 1) (nI b) A2.1 f) f e 10) 6) F2.1).1) ∧ w = (mwd U lt B F2 A2 se R2 O V al2 dr)) := by
  refine ev_of bX12_ask [some (.ref 0)] (Nat.le_of_ble_eq_true rfl) rfl ?_
  refine go_aload_n dX12_ask_0 rfl ?_
  refine go_callVs (z := MX12_find) dX12_ask_1 lX12_165 sX12_find (ev_X12_find U lt B F A se R O V al dr n m s0 gl br ok) rfl rfl rfl ⟨_, _, rfl⟩ rfl rfl (fun v w1 h => by obtain ⟨-, F2, A2, R2, rfl, -⟩ := h; rfl) (fun v_1 w_1 h_1 => ?_)
  obtain ⟨rfl, F2, A2, R2, rfl, g1, g2, g3⟩ := h_1
  have hF := g1.le ok.hn
  have hA := g2.ok ok.hm
  have hA1 := hA.1
  refine go_aload_n dX12_ask_4 rfl ?_
  refine go_callVs (z := MX12_askNow) dX12_ask_5 lX12_256 sX12_askNow (ev_X12_askNow U lt B F2 A2 se R2 O V al dr hF hA s0 ok.h9 ok.e0 hV) rfl rfl rfl ⟨_, _, rfl⟩ rfl rfl (fun v w1 h => by obtain ⟨-, R3, al3, rfl, -⟩ := h; rfl) (fun v_5 w_5 h_5 => ?_)
  obtain ⟨rfl, R3, al3, rfl, -⟩ := h_5
  refine go_ireturn dX12_ask_8 rfl rfl (Nat.le_of_ble_eq_true rfl) (Nat.le_of_ble_eq_true rfl) ?_
  exact ⟨F2, A2, R3, al3, g1, g2, rfl, rfl⟩
set_option maxRecDepth 100000 in
theorem ev_X12_rule (U : TU) (lt : Int32) (B : TB2) (F A : TX) (se : AF) (R : TR) (O : TO) (V : TX) (al : AF) (dr : Int32) (n m s0 gl br : Nat) (ok : MOK B se n m s0 gl br) (x : Int32) : Ev MX12_rule [.ref 0, .int x] (mwd U lt B F A se R O V al dr) (fun v w => ∃ (F2 A2 : TX) (R2 : TR), FInv n B.1 F2 ∧ AInv m (fun i => B.1 (48 + i)) A2 ∧ v = some (.int (if (x < 0 ∨ 16 < x) then -2 else rulD (okR (fun k => lvI F2.1 F2.2 (nmR A2.2) (se 0) (nI k) (se 2) A2.1) x) 8)) ∧ w = (mwd U lt B F2 A2 se R2 O V al dr)) := by
  refine ev_of bX12_rule [some (.ref 0), some (.int x)] (Nat.le_of_ble_eq_true rfl) rfl ?_
  refine go_aload_n dX12_rule_0 rfl ?_
  refine go_callVs (z := MX12_find) dX12_rule_1 lX12_165 sX12_find (ev_X12_find U lt B F A se R O V al dr n m s0 gl br ok) rfl rfl rfl ⟨_, _, rfl⟩ rfl rfl (fun v w1 h => by obtain ⟨-, F2, A2, R2, rfl, -⟩ := h; rfl) (fun v_1 w_1 h_1 => ?_)
  obtain ⟨rfl, F2, A2, R2, rfl, g1, g2, g3⟩ := h_1
  have hF := g1.le ok.hn
  have hA := g2.ok ok.hm
  have hA1 := hA.1
  refine go_iload_n dX12_rule_4 rfl ?_
  refine go_i2l dX12_rule_5 ?_
  refine go_lconst 0 dX12_rule_6 (by decide) ?_
  refine go_ldc2_w dX12_rule_7 kX12_204 ?_
  refine go_callSi (z := MX12_in) [] dX12_rule_10 lX12_73 sX12_in (ev_X12_in (x) (0) (16) _ _ rfl rfl) rfl rfl rfl rfl rfl rfl ?_
  refine go_if_eq 24 dX12_rule_13 (by decide) (fun c_13 => ?_) (fun c_13 => ?_)
  · refine go_bipush (-2) dX12_rule_24 (by decide) ?_
    refine go_ireturn dX12_rule_26 rfl rfl (Nat.le_of_ble_eq_true rfl) (Nat.le_of_ble_eq_true rfl) ?_
    first
    | exact ⟨F2, A2, R3, g1, g2, vi_neg (full_t3 c_13), rfl⟩
    | exact ⟨F2, A2, R2, g1, g2, vi_pos (full_t2 c_13), rfl⟩
  · obtain ⟨hx1, hx2⟩ := in_range (x := x) (n := 17) (fun q => full_t3 c_13 (Or.inl q)) (fun q => full_t3 c_13 (Or.inr (lt_succ (n := 16) (by decide) q))) (by decide)
    have hcl := ev_X12_ruleOf U lt B F2 A2 se R2 O V al dr hF hA s0 ok.h9 ok.e0 x.toNatClampNeg (by omega)
    rw [← hx1] at hcl
    refine go_aload_n dX12_rule_16 rfl ?_
    refine go_iload_n dX12_rule_17 rfl ?_
    refine go_callVs (z := MX12_ruleOf) dX12_rule_18 lX12_234 sX12_ruleOf (hcl) rfl rfl rfl ⟨_, _, rfl⟩ rfl rfl (fun v w1 h => by obtain ⟨-, R3, rfl, -⟩ := h; rfl) (fun v_18 w_18 h_18 => ?_)
    obtain ⟨rfl, R3, rfl, -⟩ := h_18
    refine go_goto 26 dX12_rule_21 (by decide) ?_
    refine go_ireturn dX12_rule_26 rfl rfl (Nat.le_of_ble_eq_true rfl) (Nat.le_of_ble_eq_true rfl) ?_
    first
    | exact ⟨F2, A2, R3, g1, g2, vi_neg (full_t3 c_13), rfl⟩
    | exact ⟨F2, A2, R2, g1, g2, vi_pos (full_t2 c_13), rfl⟩
set_option maxRecDepth 100000 in
theorem ev_X12_gaols (U : TU) (lt : Int32) (B : TB2) (F A : TX) (se : AF) (R : TR) (O : TO) (V : TX) (al : AF) (dr : Int32) (n m s0 gl br : Nat) (ok : MOK B se n m s0 gl br) (x z y : Int32) : Ev MX12_gaols [.ref 0, .int x, .int z, .int y] (mwd U lt B F A se R O V al dr) (fun v w => ∃ (F2 A2 : TX) (R2 : TR) (dr2 : Int32), FInv n B.1 F2 ∧ AInv m (fun i => B.1 (48 + i)) A2 ∧ v = some (.int (if z < 1 ∨ 99 < z ∨ ¬ (y = 0 ∨ y = 1) then -2 else if y = 0 then (galS (wC F2.1 F2.2 (nmR A2.2) (se 0) (se 1) (se 2)) (wX F2.1 F2.2 (nmR A2.2) (se 0) (se 1) (se 2)) (wN F2.1 F2.2 (nmR A2.2) (se 0) (se 1) (se 2)) A2.1 (decide (¬ (wst F2.1 F2.2 (nmR A2.2) (se 0) (se 1) (se 2) A2.1).2 < se 1)) x z.toNatClampNeg).2.1 else (galS (wC F2.1 F2.2 (nmR A2.2) (se 0) (se 1) (se 2)) (wX F2.1 F2.2 (nmR A2.2) (se 0) (se 1) (se 2)) (wN F2.1 F2.2 (nmR A2.2) (se 0) (se 1) (se 2)) A2.1 (decide (¬ (wst F2.1 F2.2 (nmR A2.2) (se 0) (se 1) (se 2) A2.1).2 < se 1)) x z.toNatClampNeg).2.2)) ∧ w = (mwd U lt B F2 A2 se R2 O V al dr2)) := by
  refine ev_of bX12_gaols [some (.ref 0), some (.int x), some (.int z), some (.int y)] (Nat.le_of_ble_eq_true rfl) rfl ?_
  refine go_aload_n dX12_gaols_0 rfl ?_
  refine go_callVs (z := MX12_find) dX12_gaols_1 lX12_165 sX12_find (ev_X12_find U lt B F A se R O V al dr n m s0 gl br ok) rfl rfl rfl ⟨_, _, rfl⟩ rfl rfl (fun v w1 h => by obtain ⟨-, F2, A2, R2, rfl, -⟩ := h; rfl) (fun v_1 w_1 h_1 => ?_)
  obtain ⟨rfl, F2, A2, R2, rfl, g1, g2, g3⟩ := h_1
  have hF := g1.le ok.hn
  have hA := g2.ok ok.hm
  have hA1 := hA.1
  refine go_iload_n dX12_gaols_4 rfl ?_
  refine go_i2l dX12_gaols_5 ?_
  refine go_lconst 1 dX12_gaols_6 (by decide) ?_
  refine go_ldc2_w dX12_gaols_7 kX12_266 ?_
  refine go_callSi (z := MX12_in) [] dX12_gaols_10 lX12_73 sX12_in (ev_X12_in (z) (1) (99) _ _ rfl rfl) rfl rfl rfl rfl rfl rfl ?_
  refine go_if_eq 33 dX12_gaols_13 (by decide) (fun c_13 => ?_) (fun c_13 => ?_)
  · refine go_bipush (-2) dX12_gaols_33 (by decide) ?_
    refine go_ireturn dX12_gaols_35 rfl rfl (Nat.le_of_ble_eq_true rfl) (Nat.le_of_ble_eq_true rfl) ?_
    first
    | exact ⟨F2, A2, R2, s3, g1, g2, vi_neg (in3 c_13 (nn2 (two_t c_20))), rfl⟩
    | exact ⟨F2, A2, R2, dr, g1, g2, vi_pos (Or.inr (Or.inr (two_f c_20))), rfl⟩
    | exact ⟨F2, A2, R2, dr, g1, g2, vi_pos (in3l c_13), rfl⟩
  · refine go_iload_n dX12_gaols_16 rfl ?_
    refine go_callSi (z := MX12_isTwo) [] dX12_gaols_17 lX12_102 sX12_isTwo (ev_X12_isTwo y) rfl rfl rfl rfl rfl rfl ?_
    refine go_if_eq 33 dX12_gaols_20 (by decide) (fun c_20 => ?_) (fun c_20 => ?_)
    · refine go_bipush (-2) dX12_gaols_33 (by decide) ?_
      refine go_ireturn dX12_gaols_35 rfl rfl (Nat.le_of_ble_eq_true rfl) (Nat.le_of_ble_eq_true rfl) ?_
      first
      | exact ⟨F2, A2, R2, s3, g1, g2, vi_neg (in3 c_13 (nn2 (two_t c_20))), rfl⟩
      | exact ⟨F2, A2, R2, dr, g1, g2, vi_pos (Or.inr (Or.inr (two_f c_20))), rfl⟩
      | exact ⟨F2, A2, R2, dr, g1, g2, vi_pos (in3l c_13), rfl⟩
    · obtain ⟨hx1, hx2⟩ := in_range (x := z) (n := 100) (fun q => full_t3 c_13 (Or.inl (lt_one q))) (fun q => full_t3 c_13 (Or.inr (lt_succ (n := 99) (by decide) q))) (by decide)
      have hcl := ev_X12_gaolsOf U lt B F2 A2 se R2 O V al dr hA g3 z.toNatClampNeg (by omega) x y (two_t c_20)
      rw [← hx1] at hcl
      refine go_aload_n dX12_gaols_23 rfl ?_
      refine go_iload_n dX12_gaols_24 rfl ?_
      refine go_iload_n dX12_gaols_25 rfl ?_
      refine go_iload_n dX12_gaols_26 rfl ?_
      refine go_callVs (z := MX12_gaolsOf) dX12_gaols_27 lX12_268 sX12_gaolsOf (hcl) rfl rfl rfl ⟨_, _, rfl⟩ rfl rfl (fun v w1 h => by obtain ⟨-, s3, rfl⟩ := h; rfl) (fun v_27 w_27 h_27 => ?_)
      obtain ⟨rfl, s3, rfl⟩ := h_27
      refine go_goto 35 dX12_gaols_30 (by decide) ?_
      refine go_ireturn dX12_gaols_35 rfl rfl (Nat.le_of_ble_eq_true rfl) (Nat.le_of_ble_eq_true rfl) ?_
      first
      | exact ⟨F2, A2, R2, s3, g1, g2, vi_neg (in3 c_13 (nn2 (two_t c_20))), rfl⟩
      | exact ⟨F2, A2, R2, dr, g1, g2, vi_pos (Or.inr (Or.inr (two_f c_20))), rfl⟩
      | exact ⟨F2, A2, R2, dr, g1, g2, vi_pos (in3l c_13), rfl⟩
