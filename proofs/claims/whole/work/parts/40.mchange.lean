set_option maxRecDepth 100000 in
theorem ev_X12_finds (U : TU) (lt : Int32) (B : TB2) (F A : TX) (se : AF) (R : TR) (O : TO) (V : TX) (al : AF) (dr : Int32) (x : Int32) : Ev MX12_finds [.ref 0, .int x] (mwd U lt B F A se R O V al dr) (Rw (some (.int (-10 - x))) (mwd U x B F A se R O V al dr)) := by
  refine ev_of bX12_finds [some (.ref 0), some (.int x)] (Nat.le_of_ble_eq_true rfl) rfl ?_
  refine go_aload_n dX12_finds_0 rfl ?_
  refine go_iload_n dX12_finds_1 rfl ?_
  refine go_putf fX12_77 dX12_finds_2 rfl (fun _ _ _ h => by cases h; rfl) (fun _ => rfl) (fun _ => rfl) (Nat.le_of_ble_eq_true rfl) ?_
  refine go_bipush (-10) dX12_finds_5 (by decide) ?_
  refine go_iload_n dX12_finds_7 rfl ?_
  refine go_isub dX12_finds_8 ?_
  refine go_ireturn dX12_finds_9 rfl rfl (Nat.le_of_ble_eq_true rfl) (Nat.le_of_ble_eq_true rfl) ?_
  exact ⟨rfl, rfl⟩
set_option maxRecDepth 100000 in
theorem ev_X12_forget (U : TU) (lt : Int32) (B : TB2) (F A : TX) (se : AF) (R : TR) (O : TO) (V : TX) (al : AF) (dr : Int32) : Ev MX12_forget [.ref 0] (mwd U lt B F A se R O V al dr) (Rw (some (.int (nI V.1))) (mwd U lt B F A se R O (0, V.2) al dr)) := by
  refine ev_of bX12_forget [some (.ref 0), none] (Nat.le_of_ble_eq_true rfl) rfl ?_
  refine go_aload_n dX12_forget_0 rfl ?_
  refine go_getf fX12_240 dX12_forget_1 rfl rfl ?_
  refine go_istore_n dX12_forget_4 (by decide) ?_
  refine go_aload_n dX12_forget_5 rfl ?_
  refine go_iconst (0) dX12_forget_6 (by decide) ?_
  refine go_putf fX12_240 dX12_forget_7 rfl (fun _ _ _ h => by cases h; rfl) (fun _ => rfl) (fun _ => rfl) (Nat.le_of_ble_eq_true rfl) ?_
  refine go_iload_n dX12_forget_10 rfl ?_
  refine go_ireturn dX12_forget_11 rfl rfl (Nat.le_of_ble_eq_true rfl) (Nat.le_of_ble_eq_true rfl) ?_
  exact ⟨rfl, rfl⟩
set_option maxRecDepth 100000 in
theorem ev_mwipe0 (U : TU) (lt : Int32) (B : TB2) (F A : TX) (se : AF) (R : TR) (O : TO) (V : TX) (al : AF) (dr : Int32) : Ev MX12_wipe [.ref 0, .int 0] (mwd U lt B F A se R O V al dr) (Rw (some (.int (B.2 0))) (mwd U lt (B.1, upd B.2 0 0) F A se R O V al dr)) := by
  refine ev_of bX12_wipe [some (.ref 0), some (.int 0), none] (Nat.le_of_ble_eq_true rfl) rfl ?_
  refine go_iload_n dX12_wipe_0 rfl ?_
  refine go_callSi (z := MX12_isTwo) [] dX12_wipe_1 lX12_102 sX12_isTwo (ev_X12_isTwo _) rfl rfl rfl rfl rfl rfl ?_
  refine go_if_ne 10 dX12_wipe_4 (by decide) (fun _ => ?_) (fun c_4 => absurd c_4 (by decide))
  refine go_aload_n dX12_wipe_10 rfl ?_
  refine go_getf fX12_25 dX12_wipe_11 rfl rfl ?_
  refine go_iload_n dX12_wipe_14 rfl ?_
  refine go_iald dX12_wipe_15 rfl (vp_in_nI (n := 0) (by decide) (by decide)) ?_
  refine go_istore_n dX12_wipe_16 (by decide) ?_
  refine go_aload_n dX12_wipe_17 rfl ?_
  refine go_getf fX12_25 dX12_wipe_18 rfl rfl ?_
  refine go_iload_n dX12_wipe_21 rfl ?_
  refine go_iconst (0) dX12_wipe_22 (by decide) ?_
  refine go_iast dX12_wipe_23 rfl (vp_in_nI (n := 0) (by decide) (by decide)) ?_
  refine go_iload_n dX12_wipe_24 rfl ?_
  refine go_ireturn dX12_wipe_25 rfl rfl (Nat.le_of_ble_eq_true rfl) (Nat.le_of_ble_eq_true rfl) ?_
  exact ⟨rfl, rfl⟩
set_option maxRecDepth 100000 in
theorem ev_mundo0 (U : TU) (lt : Int32) (B : TB2) (F A : TX) (se : AF) (R : TR) (O : TO) (V : TX) (al : AF) (dr : Int32) : Ev MX12_undo [.ref 0, .int 0] (mwd U lt B F A se R O V al dr) (fun v w => B.2 0 = 0 ∧ v = some (.int (-3)) ∧ w = (mwd U lt B F A se R O V al dr) ∨ ¬ B.2 0 = 0 ∧ v = some (.int (B.2 0 - 1)) ∧ w = (mwd U lt (B.1, upd B.2 0 (B.2 0 - 1)) F A se R O V al dr)) := by
  refine ev_of bX12_undo [some (.ref 0), some (.int 0)] (Nat.le_of_ble_eq_true rfl) rfl ?_
  refine go_iload_n dX12_undo_0 rfl ?_
  refine go_callSi (z := MX12_isTwo) [] dX12_undo_1 lX12_102 sX12_isTwo (ev_X12_isTwo _) rfl rfl rfl rfl rfl rfl ?_
  refine go_if_ne 10 dX12_undo_4 (by decide) (fun _ => ?_) (fun c_4 => absurd c_4 (by decide))
  refine go_aload_n dX12_undo_10 rfl ?_
  refine go_getf fX12_25 dX12_undo_11 rfl rfl ?_
  refine go_iload_n dX12_undo_14 rfl ?_
  refine go_iald dX12_undo_15 rfl (vp_in_nI (n := 0) (by decide) (by decide)) ?_
  refine go_if_ne 22 dX12_undo_16 (by decide) (fun c_16 => ?_) (fun c_16 => ?_)
  · refine go_aload_n dX12_undo_22 rfl ?_
    refine go_getf fX12_25 dX12_undo_23 rfl rfl ?_
    refine go_iload_n dX12_undo_26 rfl ?_
    refine go_dup2 dX12_undo_27 rfl rfl ?_
    refine go_iald dX12_undo_28 rfl (vp_in_nI (n := 0) (by decide) (by decide)) ?_
    refine go_iconst (1) dX12_undo_29 (by decide) ?_
    refine go_isub dX12_undo_30 ?_
    refine go_iast dX12_undo_31 rfl (vp_in_nI (n := 0) (by decide) (by decide)) ?_
    refine go_aload_n dX12_undo_32 rfl ?_
    refine go_getf fX12_25 dX12_undo_33 rfl rfl ?_
    refine go_iload_n dX12_undo_36 rfl ?_
    refine go_iald dX12_undo_37 rfl (vp_in_nI (n := 0) (by decide) (by decide)) ?_
    refine go_ireturn dX12_undo_38 rfl rfl (Nat.le_of_ble_eq_true rfl) (Nat.le_of_ble_eq_true rfl) ?_
    exact Or.inr ⟨c_16, rfl, rfl⟩
  · refine go_bipush (-3) dX12_undo_19 (by decide) ?_
    refine go_ireturn dX12_undo_21 rfl rfl (Nat.le_of_ble_eq_true rfl) (Nat.le_of_ble_eq_true rfl) ?_
    exact Or.inl ⟨c_16, rfl, rfl⟩
set_option maxRecDepth 100000 in
theorem ev_mtype0 (U : TU) (lt : Int32) (B : TB2) (F A : TX) (se : AF) (R : TR) (O : TO) (V : TX) (al : AF) (dr : Int32) (n : Nat) (hn : n ≤ 47) (hB : B.2 0 = nI n) (b : Int32) : Ev MX12_type [.ref 0, .int 0, .int b] (mwd U lt B F A se R O V al dr) (fun v w => (b < 0 ∨ 255 < b) ∧ v = some (.int (-2)) ∧ w = (mwd U lt B F A se R O V al dr) ∨ ¬ (b < 0 ∨ 255 < b) ∧ n = 47 ∧ v = some (.int (-4)) ∧ w = (mwd U lt B F A se R O V al dr) ∨ ¬ (b < 0 ∨ 255 < b) ∧ n < 47 ∧ v = some (.int (nI (n + 1))) ∧ w = (mwd U lt (upd B.1 (0 + n) b, upd B.2 0 (nI (n + 1))) F A se R O V al dr)) := by
  refine ev_of bX12_type [some (.ref 0), some (.int 0), some (.int b)] (Nat.le_of_ble_eq_true rfl) rfl ?_
  refine go_iload_n dX12_type_0 rfl ?_
  refine go_callSi (z := MX12_isTwo) [] dX12_type_1 lX12_102 sX12_isTwo (ev_X12_isTwo _) rfl rfl rfl rfl rfl rfl ?_
  refine go_if_eq 19 dX12_type_4 (by decide) (fun c_4 => absurd c_4 (by decide)) (fun _ => ?_)
  refine go_iload_n dX12_type_7 rfl ?_
  refine go_i2l dX12_type_8 ?_
  refine go_lconst 0 dX12_type_9 (by decide) ?_
  refine go_ldc2_w dX12_type_10 kX12_105 ?_
  refine go_callSi (z := MX12_in) [] dX12_type_13 lX12_73 sX12_in (ev_X12_in (b) (0) (255) _ _ rfl rfl) rfl rfl rfl rfl rfl rfl ?_
  refine go_if_ne 22 dX12_type_16 (by decide) (fun c_16 => ?_) (fun c_16 => ?_)
  · refine go_aload_n dX12_type_22 rfl ?_
    refine go_getf fX12_25 dX12_type_23 rfl rfl ?_
    refine go_iload_n dX12_type_26 rfl ?_
    refine go_iald dX12_type_27 rfl (vp_in_nI (n := 0) (by decide) (by decide)) ?_
    rw [show B.2 (0 : Int32).toNatClampNeg = nI n from hB]
    refine go_iload_n dX12_type_28 rfl ?_
    refine go_if_ne 37 dX12_type_29 (by decide) (fun c_29 => absurd (rfl) c_29) (fun _ => ?_)
    refine go_bipush (47) dX12_type_32 (by decide) ?_
    refine go_goto 39 dX12_type_34 (by decide) ?_
    refine go_icmp_ne 45 dX12_type_39 (by decide) (fun c_39 => ?_) (fun c_39 => ?_)
    · have hn2 : n < 47 := by
        refine Nat.lt_of_le_of_ne hn fun q => c_39 ?_
        rw [q]; rfl
      refine go_aload_n dX12_type_45 rfl ?_
      refine go_getf fX12_22 dX12_type_46 rfl rfl ?_
      refine go_bipush (48) dX12_type_49 (by decide) ?_
      refine go_iload_n dX12_type_51 rfl ?_
      refine go_imul dX12_type_52 ?_
      refine go_aload_n dX12_type_53 rfl ?_
      refine go_getf fX12_25 dX12_type_54 rfl rfl ?_
      refine go_iload_n dX12_type_57 rfl ?_
      refine go_iald dX12_type_58 rfl (vp_in_nI (n := 0) (by decide) (by decide)) ?_
      rw [show B.2 (0 : Int32).toNatClampNeg = nI n from hB]
      refine go_iadd dX12_type_59 ?_
      rw [show (48 : Int32) * 0 + nI n = nI (0 + n) from nI_add 0 n]
      refine go_iload_n dX12_type_60 rfl ?_
      refine go_iast dX12_type_61 rfl (vp_in_nI (by omega) (by decide)) ?_
      simp only [nI_clamp (show 0 + n < 2 ^ 31 by omega)]
      refine go_aload_n dX12_type_62 rfl ?_
      refine go_getf fX12_25 dX12_type_63 rfl rfl ?_
      refine go_iload_n dX12_type_66 rfl ?_
      refine go_dup2 dX12_type_67 rfl rfl ?_
      refine go_iald dX12_type_68 rfl (vp_in_nI (n := 0) (by decide) (by decide)) ?_
      rw [show B.2 (0 : Int32).toNatClampNeg = nI n from hB]
      refine go_iconst (1) dX12_type_69 (by decide) ?_
      refine go_iadd dX12_type_70 ?_
      rw [nI_1]
      refine go_iast dX12_type_71 rfl (vp_in_nI (n := 0) (by decide) (by decide)) ?_
      refine go_aload_n dX12_type_72 rfl ?_
      refine go_getf fX12_25 dX12_type_73 rfl rfl ?_
      refine go_iload_n dX12_type_76 rfl ?_
      refine go_iald dX12_type_77 rfl (vp_in_nI (n := 0) (by decide) (by decide)) ?_
      refine go_ireturn dX12_type_78 rfl rfl (Nat.le_of_ble_eq_true rfl) (Nat.le_of_ble_eq_true rfl) ?_
      exact Or.inr (Or.inr ⟨full_t3 c_16, hn2, rfl, rfl⟩)
    · refine go_bipush (-4) dX12_type_42 (by decide) ?_
      refine go_ireturn dX12_type_44 rfl rfl (Nat.le_of_ble_eq_true rfl) (Nat.le_of_ble_eq_true rfl) ?_
      exact Or.inr (Or.inl ⟨full_t3 c_16, (nI_eq (b := 47) (by omega) (by decide)).mp c_39, rfl, rfl⟩)
  · refine go_bipush (-2) dX12_type_19 (by decide) ?_
    refine go_ireturn dX12_type_21 rfl rfl (Nat.le_of_ble_eq_true rfl) (Nat.le_of_ble_eq_true rfl) ?_
    exact Or.inl ⟨full_t2 c_16, rfl, rfl⟩
set_option maxRecDepth 100000 in
theorem ev_mwipe1 (U : TU) (lt : Int32) (B : TB2) (F A : TX) (se : AF) (R : TR) (O : TO) (V : TX) (al : AF) (dr : Int32) : Ev MX12_wipe [.ref 0, .int 1] (mwd U lt B F A se R O V al dr) (Rw (some (.int (B.2 1))) (mwd U lt (B.1, upd B.2 1 0) F A se R O V al dr)) := by
  refine ev_of bX12_wipe [some (.ref 0), some (.int 1), none] (Nat.le_of_ble_eq_true rfl) rfl ?_
  refine go_iload_n dX12_wipe_0 rfl ?_
  refine go_callSi (z := MX12_isTwo) [] dX12_wipe_1 lX12_102 sX12_isTwo (ev_X12_isTwo _) rfl rfl rfl rfl rfl rfl ?_
  refine go_if_ne 10 dX12_wipe_4 (by decide) (fun _ => ?_) (fun c_4 => absurd c_4 (by decide))
  refine go_aload_n dX12_wipe_10 rfl ?_
  refine go_getf fX12_25 dX12_wipe_11 rfl rfl ?_
  refine go_iload_n dX12_wipe_14 rfl ?_
  refine go_iald dX12_wipe_15 rfl (vp_in_nI (n := 1) (by decide) (by decide)) ?_
  refine go_istore_n dX12_wipe_16 (by decide) ?_
  refine go_aload_n dX12_wipe_17 rfl ?_
  refine go_getf fX12_25 dX12_wipe_18 rfl rfl ?_
  refine go_iload_n dX12_wipe_21 rfl ?_
  refine go_iconst (0) dX12_wipe_22 (by decide) ?_
  refine go_iast dX12_wipe_23 rfl (vp_in_nI (n := 1) (by decide) (by decide)) ?_
  refine go_iload_n dX12_wipe_24 rfl ?_
  refine go_ireturn dX12_wipe_25 rfl rfl (Nat.le_of_ble_eq_true rfl) (Nat.le_of_ble_eq_true rfl) ?_
  exact ⟨rfl, rfl⟩
set_option maxRecDepth 100000 in
theorem ev_mundo1 (U : TU) (lt : Int32) (B : TB2) (F A : TX) (se : AF) (R : TR) (O : TO) (V : TX) (al : AF) (dr : Int32) : Ev MX12_undo [.ref 0, .int 1] (mwd U lt B F A se R O V al dr) (fun v w => B.2 1 = 0 ∧ v = some (.int (-3)) ∧ w = (mwd U lt B F A se R O V al dr) ∨ ¬ B.2 1 = 0 ∧ v = some (.int (B.2 1 - 1)) ∧ w = (mwd U lt (B.1, upd B.2 1 (B.2 1 - 1)) F A se R O V al dr)) := by
  refine ev_of bX12_undo [some (.ref 0), some (.int 1)] (Nat.le_of_ble_eq_true rfl) rfl ?_
  refine go_iload_n dX12_undo_0 rfl ?_
  refine go_callSi (z := MX12_isTwo) [] dX12_undo_1 lX12_102 sX12_isTwo (ev_X12_isTwo _) rfl rfl rfl rfl rfl rfl ?_
  refine go_if_ne 10 dX12_undo_4 (by decide) (fun _ => ?_) (fun c_4 => absurd c_4 (by decide))
  refine go_aload_n dX12_undo_10 rfl ?_
  refine go_getf fX12_25 dX12_undo_11 rfl rfl ?_
  refine go_iload_n dX12_undo_14 rfl ?_
  refine go_iald dX12_undo_15 rfl (vp_in_nI (n := 1) (by decide) (by decide)) ?_
  refine go_if_ne 22 dX12_undo_16 (by decide) (fun c_16 => ?_) (fun c_16 => ?_)
  · refine go_aload_n dX12_undo_22 rfl ?_
    refine go_getf fX12_25 dX12_undo_23 rfl rfl ?_
    refine go_iload_n dX12_undo_26 rfl ?_
    refine go_dup2 dX12_undo_27 rfl rfl ?_
    refine go_iald dX12_undo_28 rfl (vp_in_nI (n := 1) (by decide) (by decide)) ?_
    refine go_iconst (1) dX12_undo_29 (by decide) ?_
    refine go_isub dX12_undo_30 ?_
    refine go_iast dX12_undo_31 rfl (vp_in_nI (n := 1) (by decide) (by decide)) ?_
    refine go_aload_n dX12_undo_32 rfl ?_
    refine go_getf fX12_25 dX12_undo_33 rfl rfl ?_
    refine go_iload_n dX12_undo_36 rfl ?_
    refine go_iald dX12_undo_37 rfl (vp_in_nI (n := 1) (by decide) (by decide)) ?_
    refine go_ireturn dX12_undo_38 rfl rfl (Nat.le_of_ble_eq_true rfl) (Nat.le_of_ble_eq_true rfl) ?_
    exact Or.inr ⟨c_16, rfl, rfl⟩
  · refine go_bipush (-3) dX12_undo_19 (by decide) ?_
    refine go_ireturn dX12_undo_21 rfl rfl (Nat.le_of_ble_eq_true rfl) (Nat.le_of_ble_eq_true rfl) ?_
    exact Or.inl ⟨c_16, rfl, rfl⟩
set_option maxRecDepth 100000 in
theorem ev_mtype1 (U : TU) (lt : Int32) (B : TB2) (F A : TX) (se : AF) (R : TR) (O : TO) (V : TX) (al : AF) (dr : Int32) (n : Nat) (hn : n ≤ 12) (hB : B.2 1 = nI n) (b : Int32) : Ev MX12_type [.ref 0, .int 1, .int b] (mwd U lt B F A se R O V al dr) (fun v w => (b < 0 ∨ 255 < b) ∧ v = some (.int (-2)) ∧ w = (mwd U lt B F A se R O V al dr) ∨ ¬ (b < 0 ∨ 255 < b) ∧ n = 12 ∧ v = some (.int (-4)) ∧ w = (mwd U lt B F A se R O V al dr) ∨ ¬ (b < 0 ∨ 255 < b) ∧ n < 12 ∧ v = some (.int (nI (n + 1))) ∧ w = (mwd U lt (upd B.1 (48 + n) b, upd B.2 1 (nI (n + 1))) F A se R O V al dr)) := by
  refine ev_of bX12_type [some (.ref 0), some (.int 1), some (.int b)] (Nat.le_of_ble_eq_true rfl) rfl ?_
  refine go_iload_n dX12_type_0 rfl ?_
  refine go_callSi (z := MX12_isTwo) [] dX12_type_1 lX12_102 sX12_isTwo (ev_X12_isTwo _) rfl rfl rfl rfl rfl rfl ?_
  refine go_if_eq 19 dX12_type_4 (by decide) (fun c_4 => absurd c_4 (by decide)) (fun _ => ?_)
  refine go_iload_n dX12_type_7 rfl ?_
  refine go_i2l dX12_type_8 ?_
  refine go_lconst 0 dX12_type_9 (by decide) ?_
  refine go_ldc2_w dX12_type_10 kX12_105 ?_
  refine go_callSi (z := MX12_in) [] dX12_type_13 lX12_73 sX12_in (ev_X12_in (b) (0) (255) _ _ rfl rfl) rfl rfl rfl rfl rfl rfl ?_
  refine go_if_ne 22 dX12_type_16 (by decide) (fun c_16 => ?_) (fun c_16 => ?_)
  · refine go_aload_n dX12_type_22 rfl ?_
    refine go_getf fX12_25 dX12_type_23 rfl rfl ?_
    refine go_iload_n dX12_type_26 rfl ?_
    refine go_iald dX12_type_27 rfl (vp_in_nI (n := 1) (by decide) (by decide)) ?_
    rw [show B.2 (1 : Int32).toNatClampNeg = nI n from hB]
    refine go_iload_n dX12_type_28 rfl ?_
    refine go_if_ne 37 dX12_type_29 (by decide) (fun _ => ?_) (fun c_29 => absurd c_29 (by decide))
    refine go_bipush (12) dX12_type_37 (by decide) ?_
    refine go_icmp_ne 45 dX12_type_39 (by decide) (fun c_39 => ?_) (fun c_39 => ?_)
    · have hn2 : n < 12 := by
        refine Nat.lt_of_le_of_ne hn fun q => c_39 ?_
        rw [q]; rfl
      refine go_aload_n dX12_type_45 rfl ?_
      refine go_getf fX12_22 dX12_type_46 rfl rfl ?_
      refine go_bipush (48) dX12_type_49 (by decide) ?_
      refine go_iload_n dX12_type_51 rfl ?_
      refine go_imul dX12_type_52 ?_
      refine go_aload_n dX12_type_53 rfl ?_
      refine go_getf fX12_25 dX12_type_54 rfl rfl ?_
      refine go_iload_n dX12_type_57 rfl ?_
      refine go_iald dX12_type_58 rfl (vp_in_nI (n := 1) (by decide) (by decide)) ?_
      rw [show B.2 (1 : Int32).toNatClampNeg = nI n from hB]
      refine go_iadd dX12_type_59 ?_
      rw [show (48 : Int32) * 1 + nI n = nI (48 + n) from nI_add 48 n]
      refine go_iload_n dX12_type_60 rfl ?_
      refine go_iast dX12_type_61 rfl (vp_in_nI (by omega) (by decide)) ?_
      simp only [nI_clamp (show 48 + n < 2 ^ 31 by omega)]
      refine go_aload_n dX12_type_62 rfl ?_
      refine go_getf fX12_25 dX12_type_63 rfl rfl ?_
      refine go_iload_n dX12_type_66 rfl ?_
      refine go_dup2 dX12_type_67 rfl rfl ?_
      refine go_iald dX12_type_68 rfl (vp_in_nI (n := 1) (by decide) (by decide)) ?_
      rw [show B.2 (1 : Int32).toNatClampNeg = nI n from hB]
      refine go_iconst (1) dX12_type_69 (by decide) ?_
      refine go_iadd dX12_type_70 ?_
      rw [nI_1]
      refine go_iast dX12_type_71 rfl (vp_in_nI (n := 1) (by decide) (by decide)) ?_
      refine go_aload_n dX12_type_72 rfl ?_
      refine go_getf fX12_25 dX12_type_73 rfl rfl ?_
      refine go_iload_n dX12_type_76 rfl ?_
      refine go_iald dX12_type_77 rfl (vp_in_nI (n := 1) (by decide) (by decide)) ?_
      refine go_ireturn dX12_type_78 rfl rfl (Nat.le_of_ble_eq_true rfl) (Nat.le_of_ble_eq_true rfl) ?_
      exact Or.inr (Or.inr ⟨full_t3 c_16, hn2, rfl, rfl⟩)
    · refine go_bipush (-4) dX12_type_42 (by decide) ?_
      refine go_ireturn dX12_type_44 rfl rfl (Nat.le_of_ble_eq_true rfl) (Nat.le_of_ble_eq_true rfl) ?_
      exact Or.inr (Or.inl ⟨full_t3 c_16, (nI_eq (b := 12) (by omega) (by decide)).mp c_39, rfl, rfl⟩)
  · refine go_bipush (-2) dX12_type_19 (by decide) ?_
    refine go_ireturn dX12_type_21 rfl rfl (Nat.le_of_ble_eq_true rfl) (Nat.le_of_ble_eq_true rfl) ?_
    exact Or.inl ⟨full_t2 c_16, rfl, rfl⟩
set_option maxRecDepth 100000 in
theorem ev_mwipe_bad (U : TU) (lt : Int32) (B : TB2) (F A : TX) (se : AF) (R : TR) (O : TO) (V : TX) (al : AF) (dr : Int32) (x : Int32) (hx : x < 0 ∨ 1 < x) : Ev MX12_wipe [.ref 0, .int x] (mwd U lt B F A se R O V al dr) (Ri (mwd U lt B F A se R O V al dr) (-2)) := by
  refine ev_of bX12_wipe [some (.ref 0), some (.int x), none] (Nat.le_of_ble_eq_true rfl) rfl ?_
  refine go_iload_n dX12_wipe_0 rfl ?_
  refine go_callSi (z := MX12_isTwo) [] dX12_wipe_1 lX12_102 sX12_isTwo (ev_X12_isTwo _) rfl rfl rfl rfl rfl rfl ?_
  refine go_if_ne 10 dX12_wipe_4 (by decide) (fun c_4 => absurd (if_pos hx) c_4) (fun _ => ?_)
  refine go_bipush (-2) dX12_wipe_7 (by decide) ?_
  refine go_ireturn dX12_wipe_9 rfl rfl (Nat.le_of_ble_eq_true rfl) (Nat.le_of_ble_eq_true rfl) ?_
  exact ⟨rfl, rfl⟩
set_option maxRecDepth 100000 in
theorem ev_mundo_bad (U : TU) (lt : Int32) (B : TB2) (F A : TX) (se : AF) (R : TR) (O : TO) (V : TX) (al : AF) (dr : Int32) (x : Int32) (hx : x < 0 ∨ 1 < x) : Ev MX12_undo [.ref 0, .int x] (mwd U lt B F A se R O V al dr) (Ri (mwd U lt B F A se R O V al dr) (-2)) := by
  refine ev_of bX12_undo [some (.ref 0), some (.int x)] (Nat.le_of_ble_eq_true rfl) rfl ?_
  refine go_iload_n dX12_undo_0 rfl ?_
  refine go_callSi (z := MX12_isTwo) [] dX12_undo_1 lX12_102 sX12_isTwo (ev_X12_isTwo _) rfl rfl rfl rfl rfl rfl ?_
  refine go_if_ne 10 dX12_undo_4 (by decide) (fun c_4 => absurd (if_pos hx) c_4) (fun _ => ?_)
  refine go_bipush (-2) dX12_undo_7 (by decide) ?_
  refine go_ireturn dX12_undo_9 rfl rfl (Nat.le_of_ble_eq_true rfl) (Nat.le_of_ble_eq_true rfl) ?_
  exact ⟨rfl, rfl⟩
set_option maxRecDepth 100000 in
theorem ev_mtype_bad (U : TU) (lt : Int32) (B : TB2) (F A : TX) (se : AF) (R : TR) (O : TO) (V : TX) (al : AF) (dr : Int32) (x b : Int32) (hx : x < 0 ∨ 1 < x) : Ev MX12_type [.ref 0, .int x, .int b] (mwd U lt B F A se R O V al dr) (Ri (mwd U lt B F A se R O V al dr) (-2)) := by
  refine ev_of bX12_type [some (.ref 0), some (.int x), some (.int b)] (Nat.le_of_ble_eq_true rfl) rfl ?_
  refine go_iload_n dX12_type_0 rfl ?_
  refine go_callSi (z := MX12_isTwo) [] dX12_type_1 lX12_102 sX12_isTwo (ev_X12_isTwo _) rfl rfl rfl rfl rfl rfl ?_
  refine go_if_eq 19 dX12_type_4 (by decide) (fun _ => ?_) (fun c_4 => absurd (if_pos hx) c_4)
  refine go_bipush (-2) dX12_type_19 (by decide) ?_
  refine go_ireturn dX12_type_21 rfl rfl (Nat.le_of_ble_eq_true rfl) (Nat.le_of_ble_eq_true rfl) ?_
  exact ⟨rfl, rfl⟩
set_option maxRecDepth 100000 in
theorem ev_X12_seen (U : TU) (lt : Int32) (B : TB2) (F A : TX) (se : AF) (R : TR) (O : TO) (V : TX) (al : AF) (dr : Int32) (hV : V.1 ≤ 8) (x y : Int32) : Ev MX12_seen [.ref 0, .int x, .int y] (mwd U lt B F A se R O V al dr) (fun v w => ((x < 0 ∨ 7 < x) ∨ (y < 0 ∨ 4 < y)) ∧ v = some (.int (-2)) ∧ w = (mwd U lt B F A se R O V al dr) ∨ ¬ ((x < 0 ∨ 7 < x) ∨ (y < 0 ∨ 4 < y)) ∧ V.1 = 8 ∧ v = some (.int (-4)) ∧ w = (mwd U lt B F A se R O V al dr) ∨ ¬ ((x < 0 ∨ 7 < x) ∨ (y < 0 ∨ 4 < y)) ∧ V.1 < 8 ∧ v = some (.int (nI (V.1 + 1))) ∧ w = (mwd U lt B F A se R O (V.1 + 1, upd (upd V.2 (2 * V.1) x) (2 * V.1 + 1) y) al dr)) := by
  refine ev_of bX12_seen [some (.ref 0), some (.int x), some (.int y)] (Nat.le_of_ble_eq_true rfl) rfl ?_
  refine go_iload_n dX12_seen_0 rfl ?_
  refine go_i2l dX12_seen_1 ?_
  refine go_lconst 0 dX12_seen_2 (by decide) ?_
  refine go_ldc2_w dX12_seen_3 kX12_223 ?_
  refine go_callSi (z := MX12_in) [] dX12_seen_6 lX12_73 sX12_in (ev_X12_in (x) (0) (7) _ _ rfl rfl) rfl rfl rfl rfl rfl rfl ?_
  refine go_if_eq 24 dX12_seen_9 (by decide) (fun c_9 => ?_) (fun c_9 => ?_)
  · refine go_bipush (-2) dX12_seen_24 (by decide) ?_
    refine go_ireturn dX12_seen_26 rfl rfl (Nat.le_of_ble_eq_true rfl) (Nat.le_of_ble_eq_true rfl) ?_
    exact Or.inl ⟨by first | exact Or.inl (full_t2 c_9) | exact Or.inr (full_t2 c_21), rfl, rfl⟩
  · refine go_iload_n dX12_seen_12 rfl ?_
    refine go_i2l dX12_seen_13 ?_
    refine go_lconst 0 dX12_seen_14 (by decide) ?_
    refine go_ldc2_w dX12_seen_15 kX12_135 ?_
    refine go_callSi (z := MX12_in) [] dX12_seen_18 lX12_73 sX12_in (ev_X12_in (y) (0) (4) _ _ rfl rfl) rfl rfl rfl rfl rfl rfl ?_
    refine go_if_ne 27 dX12_seen_21 (by decide) (fun c_21 => ?_) (fun c_21 => ?_)
    · refine go_aload_n dX12_seen_27 rfl ?_
      refine go_getf fX12_240 dX12_seen_28 rfl rfl ?_
      refine go_bipush (8) dX12_seen_31 (by decide) ?_
      refine go_icmp_ne 39 dX12_seen_33 (by decide) (fun c_33 => ?_) (fun c_33 => ?_)
      · have hn2 : V.1 < 8 := Nat.lt_of_le_of_ne hV fun q => c_33 (by rw [q]; rfl)
        refine go_aload_n dX12_seen_39 rfl ?_
        refine go_getf fX12_65 dX12_seen_40 rfl rfl ?_
        refine go_iconst (2) dX12_seen_43 (by decide) ?_
        refine go_aload_n dX12_seen_44 rfl ?_
        refine go_getf fX12_240 dX12_seen_45 rfl rfl ?_
        refine go_imul dX12_seen_48 ?_
        rw [show (2 : Int32) * nI V.1 = nI (2 * V.1) from pk_mul 2 V.1]
        refine go_iload_n dX12_seen_49 rfl ?_
        refine go_iast dX12_seen_50 rfl (vp_in_nI (by omega) (by decide)) ?_
        simp only [nI_clamp (show 2 * V.1 < 2 ^ 31 by omega)]
        refine go_aload_n dX12_seen_51 rfl ?_
        refine go_getf fX12_65 dX12_seen_52 rfl rfl ?_
        refine go_iconst (2) dX12_seen_55 (by decide) ?_
        refine go_aload_n dX12_seen_56 rfl ?_
        refine go_getf fX12_240 dX12_seen_57 rfl rfl ?_
        refine go_imul dX12_seen_60 ?_
        refine go_iconst (1) dX12_seen_61 (by decide) ?_
        refine go_iadd dX12_seen_62 ?_
        rw [show (2 : Int32) * nI V.1 + 1 = nI (2 * V.1 + 1) by rw [show (2 : Int32) * nI V.1 = nI (2 * V.1) from pk_mul 2 V.1, nI_1]]
        refine go_iload_n dX12_seen_63 rfl ?_
        refine go_iast dX12_seen_64 rfl (vp_in_nI (by omega) (by decide)) ?_
        simp only [nI_clamp (show 2 * V.1 + 1 < 2 ^ 31 by omega)]
        refine go_aload_n dX12_seen_65 rfl ?_
        refine go_dup dX12_seen_66 rfl ?_
        refine go_getf fX12_240 dX12_seen_67 rfl rfl ?_
        refine go_iconst (1) dX12_seen_70 (by decide) ?_
        refine go_iadd dX12_seen_71 ?_
        rw [nI_1]
        refine go_putf fX12_240 dX12_seen_72 rfl (fun _ _ _ h => by cases h; rfl) (fun _ => rfl) (fun _ => rfl) (Nat.le_of_ble_eq_true rfl) ?_
        refine go_aload_n dX12_seen_75 rfl ?_
        refine go_getf fX12_240 dX12_seen_76 rfl rfl ?_
        refine go_ireturn dX12_seen_79 rfl rfl (Nat.le_of_ble_eq_true rfl) (Nat.le_of_ble_eq_true rfl) ?_
        exact Or.inr (Or.inr ⟨fun q => q.elim (full_t3 c_9) (full_t3 c_21), hn2, rfl, rfl⟩)
      · refine go_bipush (-4) dX12_seen_36 (by decide) ?_
        refine go_ireturn dX12_seen_38 rfl rfl (Nat.le_of_ble_eq_true rfl) (Nat.le_of_ble_eq_true rfl) ?_
        exact Or.inr (Or.inl ⟨fun q => q.elim (full_t3 c_9) (full_t3 c_21), (nI_eq (b := 8) (by omega) (by decide)).mp c_33, rfl, rfl⟩)
    · refine go_bipush (-2) dX12_seen_24 (by decide) ?_
      refine go_ireturn dX12_seen_26 rfl rfl (Nat.le_of_ble_eq_true rfl) (Nat.le_of_ble_eq_true rfl) ?_
      exact Or.inl ⟨by first | exact Or.inl (full_t2 c_9) | exact Or.inr (full_t2 c_21), rfl, rfl⟩
