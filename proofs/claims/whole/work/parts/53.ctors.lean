set_option maxRecDepth 100000 in
theorem ev_X0_init  : Ev MX0_init [.ref 0] [zO 0 [.null, .null, .null, .null, .null, .null, .null, .int 0, .int 0, .long 0]] (Rw none [zO 0 [.ref 1, .ref 2, .ref 3, .ref 4, .ref 5, .ref 6, .ref 7, .int 0, .int 0, .long 0], zI 12 (fun _ => 0), zI 12 (fun _ => 0), zI 13 (fun _ => 0), zI 13 (fun _ => 0), zL 13 (fun _ => 0), zI 13 (fun _ => 0), zI 8 (fun _ => 0)]) := by
  refine ev_of bX0_init [some (.ref 0)] (Nat.le_of_ble_eq_true rfl) rfl ?_
  refine go_aload_n dX0_init_0 rfl ?_
  refine go_objInit dX0_init_1 lX0_3 oiW ocW (Nat.le_of_ble_eq_true rfl) (Nat.le_of_ble_eq_true rfl) ?_
  refine go_aload_n dX0_init_4 rfl ?_
  refine go_bipush (12) dX0_init_5 (by decide) ?_
  refine go_newI (nw := 1) 12 dX0_init_7 rfl (by decide) (Nat.le_of_ble_eq_true rfl) (Nat.le_of_ble_eq_true rfl) rfl (by decide) rfl ?_
  refine go_putF fX0_9 dX0_init_9 rfl (fun _ _ _ h => by cases h; exact ⟨rfl, rfl⟩) rfl (fun _ => rfl) (fun _ => rfl) (Nat.le_of_ble_eq_true rfl) ?_
  refine go_aload_n dX0_init_12 rfl ?_
  refine go_bipush (12) dX0_init_13 (by decide) ?_
  refine go_newI (nw := 2) 12 dX0_init_15 rfl (by decide) (Nat.le_of_ble_eq_true rfl) (Nat.le_of_ble_eq_true rfl) rfl (by decide) rfl ?_
  refine go_putF fX0_15 dX0_init_17 rfl (fun _ _ _ h => by cases h; exact ⟨rfl, rfl⟩) rfl (fun _ => rfl) (fun _ => rfl) (Nat.le_of_ble_eq_true rfl) ?_
  refine go_aload_n dX0_init_20 rfl ?_
  refine go_bipush (13) dX0_init_21 (by decide) ?_
  refine go_newI (nw := 3) 13 dX0_init_23 rfl (by decide) (Nat.le_of_ble_eq_true rfl) (Nat.le_of_ble_eq_true rfl) rfl (by decide) rfl ?_
  refine go_putF fX0_18 dX0_init_25 rfl (fun _ _ _ h => by cases h; exact ⟨rfl, rfl⟩) rfl (fun _ => rfl) (fun _ => rfl) (Nat.le_of_ble_eq_true rfl) ?_
  refine go_aload_n dX0_init_28 rfl ?_
  refine go_bipush (13) dX0_init_29 (by decide) ?_
  refine go_newI (nw := 4) 13 dX0_init_31 rfl (by decide) (Nat.le_of_ble_eq_true rfl) (Nat.le_of_ble_eq_true rfl) rfl (by decide) rfl ?_
  refine go_putF fX0_21 dX0_init_33 rfl (fun _ _ _ h => by cases h; exact ⟨rfl, rfl⟩) rfl (fun _ => rfl) (fun _ => rfl) (Nat.le_of_ble_eq_true rfl) ?_
  refine go_aload_n dX0_init_36 rfl ?_
  refine go_bipush (13) dX0_init_37 (by decide) ?_
  refine go_newL (nw := 5) 13 dX0_init_39 rfl (by decide) (Nat.le_of_ble_eq_true rfl) (Nat.le_of_ble_eq_true rfl) rfl (by decide) rfl ?_
  refine go_putF fX0_24 dX0_init_41 rfl (fun _ _ _ h => by cases h; exact ⟨rfl, rfl⟩) rfl (fun _ => rfl) (fun _ => rfl) (Nat.le_of_ble_eq_true rfl) ?_
  refine go_aload_n dX0_init_44 rfl ?_
  refine go_bipush (13) dX0_init_45 (by decide) ?_
  refine go_newI (nw := 6) 13 dX0_init_47 rfl (by decide) (Nat.le_of_ble_eq_true rfl) (Nat.le_of_ble_eq_true rfl) rfl (by decide) rfl ?_
  refine go_putF fX0_28 dX0_init_49 rfl (fun _ _ _ h => by cases h; exact ⟨rfl, rfl⟩) rfl (fun _ => rfl) (fun _ => rfl) (Nat.le_of_ble_eq_true rfl) ?_
  refine go_aload_n dX0_init_52 rfl ?_
  refine go_bipush (8) dX0_init_53 (by decide) ?_
  refine go_newI (nw := 7) 8 dX0_init_55 rfl (by decide) (Nat.le_of_ble_eq_true rfl) (Nat.le_of_ble_eq_true rfl) rfl (by decide) rfl ?_
  refine go_putF fX0_31 dX0_init_57 rfl (fun _ _ _ h => by cases h; exact ⟨rfl, rfl⟩) rfl (fun _ => rfl) (fun _ => rfl) (Nat.le_of_ble_eq_true rfl) ?_
  refine go_return dX0_init_60 rfl (Nat.le_of_ble_eq_true rfl) (Nat.le_of_ble_eq_true rfl) ?_
  exact ⟨rfl, rfl⟩
set_option maxRecDepth 100000 in
theorem ev_X2_init  : Ev MX2_init [.ref 0] [zO 1 [.null, .int 0, .int 0]] (Rw none [zO 1 [.ref 1, .int 0, .int (-1)], zI 40 (fun _ => 0)]) := by
  refine ev_of bX2_init [some (.ref 0)] (Nat.le_of_ble_eq_true rfl) rfl ?_
  refine go_aload_n dX2_init_0 rfl ?_
  refine go_objInit dX2_init_1 lX2_3 oiW ocW (Nat.le_of_ble_eq_true rfl) (Nat.le_of_ble_eq_true rfl) ?_
  refine go_aload_n dX2_init_4 rfl ?_
  refine go_bipush (40) dX2_init_5 (by decide) ?_
  refine go_newI (nw := 1) 40 dX2_init_7 rfl (by decide) (Nat.le_of_ble_eq_true rfl) (Nat.le_of_ble_eq_true rfl) rfl (by decide) rfl ?_
  refine go_putF fX2_9 dX2_init_9 rfl (fun _ _ _ h => by cases h; exact ⟨rfl, rfl⟩) rfl (fun _ => rfl) (fun _ => rfl) (Nat.le_of_ble_eq_true rfl) ?_
  refine go_aload_n dX2_init_12 rfl ?_
  refine go_iconst (-1) dX2_init_13 (by decide) ?_
  refine go_putf fX2_15 dX2_init_14 rfl (fun _ _ _ h => by cases h; rfl) (fun _ => rfl) (fun _ => rfl) (Nat.le_of_ble_eq_true rfl) ?_
  refine go_return dX2_init_17 rfl (Nat.le_of_ble_eq_true rfl) (Nat.le_of_ble_eq_true rfl) ?_
  exact ⟨rfl, rfl⟩
set_option maxRecDepth 100000 in
theorem ev_X4_init  : Ev MX4_init [.ref 0] [zO 3 [.null, .int 0, .int 0]] (Rw none [zO 3 [.ref 1, .int 0, .int (-1)], zI 12 (fun _ => 0)]) := by
  refine ev_of bX4_init [some (.ref 0)] (Nat.le_of_ble_eq_true rfl) rfl ?_
  refine go_aload_n dX4_init_0 rfl ?_
  refine go_objInit dX4_init_1 lX4_3 oiW ocW (Nat.le_of_ble_eq_true rfl) (Nat.le_of_ble_eq_true rfl) ?_
  refine go_aload_n dX4_init_4 rfl ?_
  refine go_bipush (12) dX4_init_5 (by decide) ?_
  refine go_newI (nw := 1) 12 dX4_init_7 rfl (by decide) (Nat.le_of_ble_eq_true rfl) (Nat.le_of_ble_eq_true rfl) rfl (by decide) rfl ?_
  refine go_putF fX4_9 dX4_init_9 rfl (fun _ _ _ h => by cases h; exact ⟨rfl, rfl⟩) rfl (fun _ => rfl) (fun _ => rfl) (Nat.le_of_ble_eq_true rfl) ?_
  refine go_aload_n dX4_init_12 rfl ?_
  refine go_iconst (-1) dX4_init_13 (by decide) ?_
  refine go_putf fX4_15 dX4_init_14 rfl (fun _ _ _ h => by cases h; rfl) (fun _ => rfl) (fun _ => rfl) (Nat.le_of_ble_eq_true rfl) ?_
  refine go_return dX4_init_17 rfl (Nat.le_of_ble_eq_true rfl) (Nat.le_of_ble_eq_true rfl) ?_
  exact ⟨rfl, rfl⟩
set_option maxRecDepth 100000 in
theorem ev_X5_init  : Ev MX5_init [.ref 0] [zO 4 [.null, .null, .null, .null, .int 0, .int 0, .int 0, .int 0, .int 0, .long 0, .int 0]] (Rw none [zO 4 [.ref 1, .ref 2, .ref 3, .ref 4, .int 0, .int 0, .int 0, .int 0, .int 0, .long 0, .int 0], zL 2560 (fun _ => 0), zI 80 (fun _ => 0), zI 80 (fun _ => 0), zI 8 (fun _ => 0)]) := by
  refine ev_of bX5_init [some (.ref 0)] (Nat.le_of_ble_eq_true rfl) rfl ?_
  refine go_aload_n dX5_init_0 rfl ?_
  refine go_objInit dX5_init_1 lX5_3 oiW ocW (Nat.le_of_ble_eq_true rfl) (Nat.le_of_ble_eq_true rfl) ?_
  refine go_aload_n dX5_init_4 rfl ?_
  refine go_sipush (2560) dX5_init_5 (by decide) ?_
  refine go_newL (nw := 1) 2560 dX5_init_8 rfl (by decide) (Nat.le_of_ble_eq_true rfl) (Nat.le_of_ble_eq_true rfl) rfl (by decide) rfl ?_
  refine go_putF fX5_11 dX5_init_10 rfl (fun _ _ _ h => by cases h; exact ⟨rfl, rfl⟩) rfl (fun _ => rfl) (fun _ => rfl) (Nat.le_of_ble_eq_true rfl) ?_
  refine go_aload_n dX5_init_13 rfl ?_
  refine go_bipush (80) dX5_init_14 (by decide) ?_
  refine go_newI (nw := 2) 80 dX5_init_16 rfl (by decide) (Nat.le_of_ble_eq_true rfl) (Nat.le_of_ble_eq_true rfl) rfl (by decide) rfl ?_
  refine go_putF fX5_15 dX5_init_18 rfl (fun _ _ _ h => by cases h; exact ⟨rfl, rfl⟩) rfl (fun _ => rfl) (fun _ => rfl) (Nat.le_of_ble_eq_true rfl) ?_
  refine go_aload_n dX5_init_21 rfl ?_
  refine go_bipush (80) dX5_init_22 (by decide) ?_
  refine go_newI (nw := 3) 80 dX5_init_24 rfl (by decide) (Nat.le_of_ble_eq_true rfl) (Nat.le_of_ble_eq_true rfl) rfl (by decide) rfl ?_
  refine go_putF fX5_19 dX5_init_26 rfl (fun _ _ _ h => by cases h; exact ⟨rfl, rfl⟩) rfl (fun _ => rfl) (fun _ => rfl) (Nat.le_of_ble_eq_true rfl) ?_
  refine go_aload_n dX5_init_29 rfl ?_
  refine go_bipush (8) dX5_init_30 (by decide) ?_
  refine go_newI (nw := 4) 8 dX5_init_32 rfl (by decide) (Nat.le_of_ble_eq_true rfl) (Nat.le_of_ble_eq_true rfl) rfl (by decide) rfl ?_
  refine go_putF fX5_22 dX5_init_34 rfl (fun _ _ _ h => by cases h; exact ⟨rfl, rfl⟩) rfl (fun _ => rfl) (fun _ => rfl) (Nat.le_of_ble_eq_true rfl) ?_
  refine go_return dX5_init_37 rfl (Nat.le_of_ble_eq_true rfl) (Nat.le_of_ble_eq_true rfl) ?_
  exact ⟨rfl, rfl⟩
set_option maxRecDepth 100000 in
theorem ev_X6_init  : Ev MX6_init [.ref 0] [zO 5 [.null, .int 0, .int 0, .int 0]] (Rw none [zO 5 [.ref 1, .int 1, .int 0, .int 0], zI 60 (fun _ => 0)]) := by
  refine ev_of bX6_init [some (.ref 0)] (Nat.le_of_ble_eq_true rfl) rfl ?_
  refine go_aload_n dX6_init_0 rfl ?_
  refine go_objInit dX6_init_1 lX6_3 oiW ocW (Nat.le_of_ble_eq_true rfl) (Nat.le_of_ble_eq_true rfl) ?_
  refine go_aload_n dX6_init_4 rfl ?_
  refine go_bipush (60) dX6_init_5 (by decide) ?_
  refine go_newI (nw := 1) 60 dX6_init_7 rfl (by decide) (Nat.le_of_ble_eq_true rfl) (Nat.le_of_ble_eq_true rfl) rfl (by decide) rfl ?_
  refine go_putF fX6_9 dX6_init_9 rfl (fun _ _ _ h => by cases h; exact ⟨rfl, rfl⟩) rfl (fun _ => rfl) (fun _ => rfl) (Nat.le_of_ble_eq_true rfl) ?_
  refine go_aload_n dX6_init_12 rfl ?_
  refine go_iconst (1) dX6_init_13 (by decide) ?_
  refine go_putf fX6_15 dX6_init_14 rfl (fun _ _ _ h => by cases h; rfl) (fun _ => rfl) (fun _ => rfl) (Nat.le_of_ble_eq_true rfl) ?_
  refine go_return dX6_init_17 rfl (Nat.le_of_ble_eq_true rfl) (Nat.le_of_ble_eq_true rfl) ?_
  exact ⟨rfl, rfl⟩
set_option maxRecDepth 100000 in
theorem ev_X7_init  : Ev MX7_init [.ref 0] [zO 6 [.null, .null, .int 0]] (Rw none [zO 6 [.ref 1, .ref 2, .int 0], zI 8 (fun _ => 0), zI 8 (fun _ => 0)]) := by
  refine ev_of bX7_init [some (.ref 0)] (Nat.le_of_ble_eq_true rfl) rfl ?_
  refine go_aload_n dX7_init_0 rfl ?_
  refine go_objInit dX7_init_1 lX7_3 oiW ocW (Nat.le_of_ble_eq_true rfl) (Nat.le_of_ble_eq_true rfl) ?_
  refine go_aload_n dX7_init_4 rfl ?_
  refine go_bipush (8) dX7_init_5 (by decide) ?_
  refine go_newI (nw := 1) 8 dX7_init_7 rfl (by decide) (Nat.le_of_ble_eq_true rfl) (Nat.le_of_ble_eq_true rfl) rfl (by decide) rfl ?_
  refine go_putF fX7_9 dX7_init_9 rfl (fun _ _ _ h => by cases h; exact ⟨rfl, rfl⟩) rfl (fun _ => rfl) (fun _ => rfl) (Nat.le_of_ble_eq_true rfl) ?_
  refine go_aload_n dX7_init_12 rfl ?_
  refine go_bipush (8) dX7_init_13 (by decide) ?_
  refine go_newI (nw := 2) 8 dX7_init_15 rfl (by decide) (Nat.le_of_ble_eq_true rfl) (Nat.le_of_ble_eq_true rfl) rfl (by decide) rfl ?_
  refine go_putF fX7_15 dX7_init_17 rfl (fun _ _ _ h => by cases h; exact ⟨rfl, rfl⟩) rfl (fun _ => rfl) (fun _ => rfl) (Nat.le_of_ble_eq_true rfl) ?_
  refine go_return dX7_init_20 rfl (Nat.le_of_ble_eq_true rfl) (Nat.le_of_ble_eq_true rfl) ?_
  exact ⟨rfl, rfl⟩
set_option maxRecDepth 100000 in
theorem ev_X9_init  : Ev MX9_init [.ref 0] [zO 7 [.int 0, .int 0, .int 0]] (Rw none [zO 7 [.int 5, .int 5, .int 5]]) := by
  refine ev_of bX9_init [some (.ref 0)] (Nat.le_of_ble_eq_true rfl) rfl ?_
  refine go_aload_n dX9_init_0 rfl ?_
  refine go_objInit dX9_init_1 lX9_3 oiW ocW (Nat.le_of_ble_eq_true rfl) (Nat.le_of_ble_eq_true rfl) ?_
  refine go_aload_n dX9_init_4 rfl ?_
  refine go_iconst (5) dX9_init_5 (by decide) ?_
  refine go_putf fX9_9 dX9_init_6 rfl (fun _ _ _ h => by cases h; rfl) (fun _ => rfl) (fun _ => rfl) (Nat.le_of_ble_eq_true rfl) ?_
  refine go_aload_n dX9_init_9 rfl ?_
  refine go_iconst (5) dX9_init_10 (by decide) ?_
  refine go_putf fX9_15 dX9_init_11 rfl (fun _ _ _ h => by cases h; rfl) (fun _ => rfl) (fun _ => rfl) (Nat.le_of_ble_eq_true rfl) ?_
  refine go_aload_n dX9_init_14 rfl ?_
  refine go_iconst (5) dX9_init_15 (by decide) ?_
  refine go_putf fX9_18 dX9_init_16 rfl (fun _ _ _ h => by cases h; rfl) (fun _ => rfl) (fun _ => rfl) (Nat.le_of_ble_eq_true rfl) ?_
  refine go_return dX9_init_19 rfl (Nat.le_of_ble_eq_true rfl) (Nat.le_of_ble_eq_true rfl) ?_
  exact ⟨rfl, rfl⟩
set_option maxRecDepth 100000 in
theorem ev_text47  : Ev MX10_init [.ref 0, .int 47] [zO 8 [.null, .int 0]] (Rw none [zO 8 [.ref 1, .int 0], zI 47 (fun _ => 0)]) := by
  refine ev_of bX10_init [some (.ref 0), some (.int 47)] (Nat.le_of_ble_eq_true rfl) rfl ?_
  refine go_aload_n dX10_init_0 rfl ?_
  refine go_objInit dX10_init_1 lX10_3 oiW ocW (Nat.le_of_ble_eq_true rfl) (Nat.le_of_ble_eq_true rfl) ?_
  refine go_aload_n dX10_init_4 rfl ?_
  refine go_iconst (0) dX10_init_5 (by decide) ?_
  refine go_iload_n dX10_init_6 rfl ?_
  refine go_max dX10_init_7 lX10_9 (Nat.le_of_ble_eq_true rfl) (Nat.le_of_ble_eq_true rfl) (Nat.le_of_ble_eq_true rfl) (Nat.le_of_ble_eq_true rfl) ?_
  refine go_newI (nw := 1) 47 dX10_init_10 (by decide) (by decide) (Nat.le_of_ble_eq_true rfl) (Nat.le_of_ble_eq_true rfl) rfl (by decide) rfl ?_
  refine go_putF fX10_15 dX10_init_12 rfl (fun _ _ _ h => by cases h; exact ⟨rfl, rfl⟩) rfl (fun _ => rfl) (fun _ => rfl) (Nat.le_of_ble_eq_true rfl) ?_
  refine go_return dX10_init_15 rfl (Nat.le_of_ble_eq_true rfl) (Nat.le_of_ble_eq_true rfl) ?_
  exact ⟨rfl, rfl⟩
set_option maxRecDepth 100000 in
theorem ev_text12  : Ev MX10_init [.ref 0, .int 12] [zO 8 [.null, .int 0]] (Rw none [zO 8 [.ref 1, .int 0], zI 12 (fun _ => 0)]) := by
  refine ev_of bX10_init [some (.ref 0), some (.int 12)] (Nat.le_of_ble_eq_true rfl) rfl ?_
  refine go_aload_n dX10_init_0 rfl ?_
  refine go_objInit dX10_init_1 lX10_3 oiW ocW (Nat.le_of_ble_eq_true rfl) (Nat.le_of_ble_eq_true rfl) ?_
  refine go_aload_n dX10_init_4 rfl ?_
  refine go_iconst (0) dX10_init_5 (by decide) ?_
  refine go_iload_n dX10_init_6 rfl ?_
  refine go_max dX10_init_7 lX10_9 (Nat.le_of_ble_eq_true rfl) (Nat.le_of_ble_eq_true rfl) (Nat.le_of_ble_eq_true rfl) (Nat.le_of_ble_eq_true rfl) ?_
  refine go_newI (nw := 1) 12 dX10_init_10 (by decide) (by decide) (Nat.le_of_ble_eq_true rfl) (Nat.le_of_ble_eq_true rfl) rfl (by decide) rfl ?_
  refine go_putF fX10_15 dX10_init_12 rfl (fun _ _ _ h => by cases h; exact ⟨rfl, rfl⟩) rfl (fun _ => rfl) (fun _ => rfl) (Nat.le_of_ble_eq_true rfl) ?_
  refine go_return dX10_init_15 rfl (Nat.le_of_ble_eq_true rfl) (Nat.le_of_ble_eq_true rfl) ?_
  exact ⟨rfl, rfl⟩
