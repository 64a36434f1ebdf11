theorem two_f {y : Int32} (h : (if y < 0 ∨ 1 < y then (0 : Int32) else 1) = 0) : ¬ (y = 0 ∨ y = 1) := (two_iff y).mp (full_t2 h)
theorem two_t {y : Int32} (h : ¬ (if y < 0 ∨ 1 < y then (0 : Int32) else 1) = 0) : y = 0 ∨ y = 1 := Decidable.of_not_not fun q => full_t3 h ((two_iff y).mpr q)
theorem vi_neg {P : Prop} [Decidable P] {a b : Int32} (h : ¬ P) : some (Value.int b) = some (Value.int (if P then a else b)) := by rw [if_neg h]
theorem vi_pos {P : Prop} [Decidable P] {a b : Int32} (h : P) : some (Value.int a) = some (Value.int (if P then a else b)) := by rw [if_pos h]
theorem vi_nt {P Q : Prop} [Decidable P] [Decidable Q] {a b c : Int32} (h : ¬ P) (q : Q) : some (Value.int b) = some (Value.int (if P then a else if Q then b else c)) := by rw [if_neg h, if_pos q]
theorem vi_nf {P Q : Prop} [Decidable P] [Decidable Q] {a b c : Int32} (h : ¬ P) (q : ¬ Q) : some (Value.int c) = some (Value.int (if P then a else if Q then b else c)) := by rw [if_neg h, if_neg q]
theorem vl_neg {P : Prop} [Decidable P] {a b : Int64} (h : ¬ P) : some (Value.long b) = some (Value.long (if P then a else b)) := by rw [if_neg h]
theorem vl_pos {P : Prop} [Decidable P] {a b : Int64} (h : P) : some (Value.long a) = some (Value.long (if P then a else b)) := by rw [if_pos h]
theorem no_bad : (-9223372036854775808 : Int64) - (-2 : Int32).toInt64 = badL := rfl
set_option maxRecDepth 100000 in
theorem ev_X12_fault (U : TU) (lt : Int32) (B : TB2) (F A : TX) (se : AF) (R : TR) (O : TO) (V : TX) (al : AF) (dr : Int32) (n m s0 gl br : Nat) (ok : MOK B se n m s0 gl br) (x : Int32) : Ev MX12_fault [.ref 0, .int x] (mwd U lt B F A se R O V al dr) (fun v w => ∃ F2 A2 : TX, v = some (.int (if x = 0 then fltI n B.1 else if x = 1 then nfl m (fun i => B.1 (48 + i)) else -2)) ∧ w = (mwd U lt B F2 A2 se R O V al dr)) := by
  refine ev_of bX12_fault [some (.ref 0), some (.int x)] (Nat.le_of_ble_eq_true rfl) rfl ?_
  refine go_iload_n dX12_fault_0 rfl ?_
  refine go_callSi (z := MX12_isTwo) [] dX12_fault_1 lX12_102 sX12_isTwo (ev_X12_isTwo x) rfl rfl rfl rfl rfl rfl ?_
  refine go_if_ne 12 dX12_fault_4 (by decide) (fun c_4 => ?_) (fun c_4 => ?_)
  · refine go_iload_n dX12_fault_12 rfl ?_
    refine go_if_ne 23 dX12_fault_13 (by decide) (fun c_13 => ?_) (fun c_13 => ?_)
    · refine go_aload_n dX12_fault_23 rfl ?_
      refine go_callVs (z := MX12_readsNames) dX12_fault_24 lX12_129 sX12_readsNames (ev_X12_readsNames U lt B F A se R O V al dr m ok.hm ok.hu) rfl rfl rfl ⟨_, _, rfl⟩ rfl rfl (fun v w1 h => by obtain ⟨-, F2, rfl, -⟩ := h; rfl) (fun v_24 w_24 h_24 => ?_)
      obtain ⟨rfl, A2, rfl, g2⟩ := h_24
      refine go_ireturn dX12_fault_27 rfl rfl (Nat.le_of_ble_eq_true rfl) (Nat.le_of_ble_eq_true rfl) ?_
      first
      | exact ⟨F, A, vi_nf (fun q => two_f c_4 (Or.inl q)) (fun q => two_f c_4 (Or.inr q)), rfl⟩
      | exact ⟨F2, A, vi_pos c_13, rfl⟩
      | exact ⟨F, A2, vi_nt c_13 ((two_t c_4).resolve_left c_13), rfl⟩
    · refine go_aload_n dX12_fault_16 rfl ?_
      refine go_callVs (z := MX12_readsFelons) dX12_fault_17 lX12_125 sX12_readsFelons (ev_X12_readsFelons U lt B F A se R O V al dr n ok.hn ok.ht) rfl rfl rfl ⟨_, _, rfl⟩ rfl rfl (fun v w1 h => by obtain ⟨-, F2, rfl, -⟩ := h; rfl) (fun v_17 w_17 h_17 => ?_)
      obtain ⟨rfl, F2, rfl, g1⟩ := h_17
      refine go_goto 27 dX12_fault_20 (by decide) ?_
      refine go_ireturn dX12_fault_27 rfl rfl (Nat.le_of_ble_eq_true rfl) (Nat.le_of_ble_eq_true rfl) ?_
      first
      | exact ⟨F, A, vi_nf (fun q => two_f c_4 (Or.inl q)) (fun q => two_f c_4 (Or.inr q)), rfl⟩
      | exact ⟨F2, A, vi_pos c_13, rfl⟩
      | exact ⟨F, A2, vi_nt c_13 ((two_t c_4).resolve_left c_13), rfl⟩
  · refine go_bipush (-2) dX12_fault_7 (by decide) ?_
    refine go_goto 27 dX12_fault_9 (by decide) ?_
    refine go_ireturn dX12_fault_27 rfl rfl (Nat.le_of_ble_eq_true rfl) (Nat.le_of_ble_eq_true rfl) ?_
    first
    | exact ⟨F, A, vi_nf (fun q => two_f c_4 (Or.inl q)) (fun q => two_f c_4 (Or.inr q)), rfl⟩
    | exact ⟨F2, A, vi_pos c_13, rfl⟩
    | exact ⟨F, A2, vi_nt c_13 ((two_t c_4).resolve_left c_13), rfl⟩
set_option maxRecDepth 100000 in
theorem ev_X12_felon (U : TU) (lt : Int32) (B : TB2) (F A : TX) (se : AF) (R : TR) (O : TO) (V : TX) (al : AF) (dr : Int32) (n m s0 gl br : Nat) (ok : MOK B se n m s0 gl br) (x y : Int32) : Ev MX12_felon [.ref 0, .int x, .int y] (mwd U lt B F A se R O V al dr) (fun v w => ∃ F2 : TX, FInv n B.1 F2 ∧ v = some (.int (if x < 0 ∨ nI F2.1 ≤ x ∨ y < 0 ∨ 4 < y then -2 else F2.2 (5 * x.toNatClampNeg + y.toNatClampNeg))) ∧ w = (mwd U lt B F2 A se R O V al dr)) := by
  refine ev_of bX12_felon [some (.ref 0), some (.int x), some (.int y)] (Nat.le_of_ble_eq_true rfl) rfl ?_
  refine go_aload_n dX12_felon_0 rfl ?_
  refine go_callVs (z := MX12_readsFelons) dX12_felon_1 lX12_125 sX12_readsFelons (ev_X12_readsFelons U lt B F A se R O V al dr n ok.hn ok.ht) rfl rfl rfl ⟨_, _, rfl⟩ rfl rfl (fun v w1 h => by obtain ⟨-, F2, rfl, -⟩ := h; rfl) (fun v_1 w_1 h_1 => ?_)
  obtain ⟨rfl, F2, rfl, g1⟩ := h_1
  have hF := g1.le ok.hn
  refine go_pop dX12_felon_4 rfl ?_
  refine go_aload_n dX12_felon_5 rfl ?_
  refine go_iload_n dX12_felon_6 rfl ?_
  refine go_callVsi (z := MX12_isFelon) dX12_felon_7 lX12_132 sX12_isFelon (ev_X12_isFelon U lt B F2 A se R O V al dr hF x) rfl rfl rfl ⟨_, _, rfl⟩ rfl rfl ?_
  refine go_if_eq 38 dX12_felon_10 (by decide) (fun c_10 => ?_) (fun c_10 => ?_)
  · refine go_bipush (-2) dX12_felon_38 (by decide) ?_
    refine go_ireturn dX12_felon_40 rfl rfl (Nat.le_of_ble_eq_true rfl) (Nat.le_of_ble_eq_true rfl) ?_
    first
    | exact ⟨F2, g1, vi_neg (fun q => q.elim (fun q => full_t3 c_10 (Or.inl q)) (fun q => q.elim (fun q => full_t3 c_10 (Or.inr q)) (full_t3 c_22))), rfl⟩
    | exact ⟨F2, g1, vi_pos ((full_t2 c_10).elim Or.inl (fun q => Or.inr (Or.inl q))), rfl⟩
    | exact ⟨F2, g1, vi_pos (Or.inr (Or.inr (full_t2 c_22))), rfl⟩
  · refine go_iload_n dX12_felon_13 rfl ?_
    refine go_i2l dX12_felon_14 ?_
    refine go_lconst 0 dX12_felon_15 (by decide) ?_
    refine go_ldc2_w dX12_felon_16 kX12_135 ?_
    refine go_callSi (z := MX12_in) [] dX12_felon_19 lX12_73 sX12_in (ev_X12_in (y) (0) (4) _ _ rfl rfl) rfl rfl rfl rfl rfl rfl ?_
    refine go_if_eq 38 dX12_felon_22 (by decide) (fun c_22 => ?_) (fun c_22 => ?_)
    · refine go_bipush (-2) dX12_felon_38 (by decide) ?_
      refine go_ireturn dX12_felon_40 rfl rfl (Nat.le_of_ble_eq_true rfl) (Nat.le_of_ble_eq_true rfl) ?_
      first
      | exact ⟨F2, g1, vi_neg (fun q => q.elim (fun q => full_t3 c_10 (Or.inl q)) (fun q => q.elim (fun q => full_t3 c_10 (Or.inr q)) (full_t3 c_22))), rfl⟩
      | exact ⟨F2, g1, vi_pos ((full_t2 c_10).elim Or.inl (fun q => Or.inr (Or.inl q))), rfl⟩
      | exact ⟨F2, g1, vi_pos (Or.inr (Or.inr (full_t2 c_22))), rfl⟩
    · obtain ⟨hi1, hi2⟩ := in_range (fun q => full_t3 c_10 (Or.inl q)) (fun q => full_t3 c_10 (Or.inr q)) (show F2.1 < 2 ^ 31 by omega)
      obtain ⟨hy1, hy2⟩ := in_range (x := y) (n := 5) (fun q => full_t3 c_22 (Or.inl q)) (fun q => full_t3 c_22 (Or.inr ((le4 y).mpr q))) (by decide)
      refine go_aload_n dX12_felon_25 rfl ?_
      refine go_getf fX12_28 dX12_felon_26 rfl rfl ?_
      refine go_iconst (5) dX12_felon_29 (by decide) ?_
      refine go_iload_n dX12_felon_30 rfl ?_
      refine go_imul dX12_felon_31 ?_
      refine go_iload_n dX12_felon_32 rfl ?_
      refine go_iadd dX12_felon_33 ?_
      rw [show (5 : Int32) * x + y = nI (5 * x.toNatClampNeg + y.toNatClampNeg) by conv => lhs; rw [hi1, hy1, five]]
      refine go_iald dX12_felon_34 rfl (vp_in_nI (by omega) (by decide)) ?_
      simp only [nI_clamp (show 5 * x.toNatClampNeg + y.toNatClampNeg < 2 ^ 31 by omega)]
      refine go_goto 40 dX12_felon_35 (by decide) ?_
      refine go_ireturn dX12_felon_40 rfl rfl (Nat.le_of_ble_eq_true rfl) (Nat.le_of_ble_eq_true rfl) ?_
      first
      | exact ⟨F2, g1, vi_neg (fun q => q.elim (fun q => full_t3 c_10 (Or.inl q)) (fun q => q.elim (fun q => full_t3 c_10 (Or.inr q)) (full_t3 c_22))), rfl⟩
      | exact ⟨F2, g1, vi_pos ((full_t2 c_10).elim Or.inl (fun q => Or.inr (Or.inl q))), rfl⟩
      | exact ⟨F2, g1, vi_pos (Or.inr (Or.inr (full_t2 c_22))), rfl⟩
set_option maxRecDepth 100000 in
theorem ev_X12_name (U : TU) (lt : Int32) (B : TB2) (F A : TX) (se : AF) (R : TR) (O : TO) (V : TX) (al : AF) (dr : Int32) (n m s0 gl br : Nat) (ok : MOK B se n m s0 gl br) (x : Int32) : Ev MX12_name [.ref 0, .int x] (mwd U lt B F A se R O V al dr) (fun v w => ∃ A2 : TX, AInv m (fun i => B.1 (48 + i)) A2 ∧ v = some (.int (if x < 0 ∨ 11 < x then -2 else if nI A2.1 ≤ x then -1 else A2.2 x.toNatClampNeg)) ∧ w = (mwd U lt B F A2 se R O V al dr)) := by
  refine ev_of bX12_name [some (.ref 0), some (.int x)] (Nat.le_of_ble_eq_true rfl) rfl ?_
  refine go_aload_n dX12_name_0 rfl ?_
  refine go_callVs (z := MX12_readsNames) dX12_name_1 lX12_129 sX12_readsNames (ev_X12_readsNames U lt B F A se R O V al dr m ok.hm ok.hu) rfl rfl rfl ⟨_, _, rfl⟩ rfl rfl (fun v w1 h => by obtain ⟨-, F2, rfl, -⟩ := h; rfl) (fun v_1 w_1 h_1 => ?_)
  obtain ⟨rfl, A2, rfl, g2⟩ := h_1
  have hA1 := (g2.ok ok.hm).1
  refine go_pop dX12_name_4 rfl ?_
  refine go_iload_n dX12_name_5 rfl ?_
  refine go_i2l dX12_name_6 ?_
  refine go_lconst 0 dX12_name_7 (by decide) ?_
  refine go_ldc2_w dX12_name_8 kX12_137 ?_
  refine go_callSi (z := MX12_in) [] dX12_name_11 lX12_73 sX12_in (ev_X12_in (x) (0) (11) _ _ rfl rfl) rfl rfl rfl rfl rfl rfl ?_
  refine go_if_ne 22 dX12_name_14 (by decide) (fun c_14 => ?_) (fun c_14 => ?_)
  · refine go_iload_n dX12_name_22 rfl ?_
    refine go_aload_n dX12_name_23 rfl ?_
    refine go_getf fX12_118 dX12_name_24 rfl rfl ?_
    refine go_icmp_ge 39 dX12_name_27 (by decide) (fun c_27 => ?_) (fun c_27 => ?_)
    · refine go_iconst (-1) dX12_name_39 (by decide) ?_
      refine go_ireturn dX12_name_40 rfl rfl (Nat.le_of_ble_eq_true rfl) (Nat.le_of_ble_eq_true rfl) ?_
      first
      | exact ⟨A2, g2, vi_pos (full_t2 c_14), rfl⟩
      | exact ⟨A2, g2, vi_nt (full_t3 c_14) c_27, rfl⟩
      | exact ⟨A2, g2, vi_nf (full_t3 c_14) c_27, rfl⟩
    · refine go_aload_n dX12_name_30 rfl ?_
      refine go_getf fX12_31 dX12_name_31 rfl rfl ?_
      refine go_iload_n dX12_name_34 rfl ?_
      refine go_iald dX12_name_35 rfl (vin_of (s := nI A2.1) (fun q => full_t3 c_14 (Or.inl q)) c_27 (by rw [nI_toInt (by omega)]; omega)) ?_
      refine go_goto 40 dX12_name_36 (by decide) ?_
      refine go_ireturn dX12_name_40 rfl rfl (Nat.le_of_ble_eq_true rfl) (Nat.le_of_ble_eq_true rfl) ?_
      first
      | exact ⟨A2, g2, vi_pos (full_t2 c_14), rfl⟩
      | exact ⟨A2, g2, vi_nt (full_t3 c_14) c_27, rfl⟩
      | exact ⟨A2, g2, vi_nf (full_t3 c_14) c_27, rfl⟩
  · refine go_bipush (-2) dX12_name_17 (by decide) ?_
    refine go_goto 40 dX12_name_19 (by decide) ?_
    refine go_ireturn dX12_name_40 rfl rfl (Nat.le_of_ble_eq_true rfl) (Nat.le_of_ble_eq_true rfl) ?_
    first
    | exact ⟨A2, g2, vi_pos (full_t2 c_14), rfl⟩
    | exact ⟨A2, g2, vi_nt (full_t3 c_14) c_27, rfl⟩
    | exact ⟨A2, g2, vi_nf (full_t3 c_14) c_27, rfl⟩
