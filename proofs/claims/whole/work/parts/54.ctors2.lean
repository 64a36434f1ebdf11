def U00 : TU := (upd (upd (upd (upd (fun _ => 0) 0 (-1)) 1 (-1)) 2 (-1)) 3 (-1), (fun _ => 0), (fun _ => 0), (fun _ => 0))
def se00 : AF := (upd (upd (upd (fun _ => 0) 0 5) 1 5) 2 5)
set_option maxRecDepth 100000 in
theorem ev_X12_init  : Ev MX12_init [.ref 0] [zO 10 [.null, .null, .null, .null, .int 0, .null, .null, .int 0, .null, .int 0, .null, .null, .null, .null, .null, .null, .null, .null, .null, .null, .null, .int 0, .long 0, .int 0, .null, .null, .int 0]] (Rw none (mwd U00 0 ((fun _ => 0), (fun _ => 0)) (0, (fun _ => 0)) (0, (fun _ => 0)) se00 ((fun _ => 0), (fun _ => 0), (fun _ => 0), (fun _ => 0)) ((fun _ => 0), (fun _ => 0), (fun _ => 0), (fun _ => 0), (fun _ => 0), 0, 0) (0, (fun _ => 0)) (fun _ => 0) 0)) := by
  refine ev_of bX12_init [some (.ref 0), none] (Nat.le_of_ble_eq_true rfl) rfl ?_
  refine go_aload_n dX12_init_0 rfl ?_
  refine go_objInit dX12_init_1 lX12_1 oiW ocW (Nat.le_of_ble_eq_true rfl) (Nat.le_of_ble_eq_true rfl) ?_
  refine go_aload_n dX12_init_4 rfl ?_
  refine go_iconst (4) dX12_init_5 (by decide) ?_
  refine go_newI (nw := 1) 4 dX12_init_6 rfl (by decide) (Nat.le_of_ble_eq_true rfl) (Nat.le_of_ble_eq_true rfl) rfl (by decide) rfl ?_
  refine go_putF fX12_7 dX12_init_8 rfl (fun _ _ _ h => by cases h; exact ⟨rfl, rfl⟩) rfl (fun _ => rfl) (fun _ => rfl) (Nat.le_of_ble_eq_true rfl) ?_
  refine go_aload_n dX12_init_11 rfl ?_
  refine go_iconst (4) dX12_init_12 (by decide) ?_
  refine go_newI (nw := 2) 4 dX12_init_13 rfl (by decide) (Nat.le_of_ble_eq_true rfl) (Nat.le_of_ble_eq_true rfl) rfl (by decide) rfl ?_
  refine go_putF fX12_13 dX12_init_15 rfl (fun _ _ _ h => by cases h; exact ⟨rfl, rfl⟩) rfl (fun _ => rfl) (fun _ => rfl) (Nat.le_of_ble_eq_true rfl) ?_
  refine go_aload_n dX12_init_18 rfl ?_
  refine go_sipush (240) dX12_init_19 (by decide) ?_
  refine go_newI (nw := 3) 240 dX12_init_22 rfl (by decide) (Nat.le_of_ble_eq_true rfl) (Nat.le_of_ble_eq_true rfl) rfl (by decide) rfl ?_
  refine go_putF fX12_16 dX12_init_24 rfl (fun _ _ _ h => by cases h; exact ⟨rfl, rfl⟩) rfl (fun _ => rfl) (fun _ => rfl) (Nat.le_of_ble_eq_true rfl) ?_
  refine go_aload_n dX12_init_27 rfl ?_
  refine go_bipush (60) dX12_init_28 (by decide) ?_
  refine go_newI (nw := 4) 60 dX12_init_30 rfl (by decide) (Nat.le_of_ble_eq_true rfl) (Nat.le_of_ble_eq_true rfl) rfl (by decide) rfl ?_
  refine go_putF fX12_19 dX12_init_32 rfl (fun _ _ _ h => by cases h; exact ⟨rfl, rfl⟩) rfl (fun _ => rfl) (fun _ => rfl) (Nat.le_of_ble_eq_true rfl) ?_
  refine go_aload_n dX12_init_35 rfl ?_
  refine go_bipush (96) dX12_init_36 (by decide) ?_
  refine go_newI (nw := 5) 96 dX12_init_38 rfl (by decide) (Nat.le_of_ble_eq_true rfl) (Nat.le_of_ble_eq_true rfl) rfl (by decide) rfl ?_
  refine go_putF fX12_22 dX12_init_40 rfl (fun _ _ _ h => by cases h; exact ⟨rfl, rfl⟩) rfl (fun _ => rfl) (fun _ => rfl) (Nat.le_of_ble_eq_true rfl) ?_
  refine go_aload_n dX12_init_43 rfl ?_
  refine go_iconst (2) dX12_init_44 (by decide) ?_
  refine go_newI (nw := 6) 2 dX12_init_45 rfl (by decide) (Nat.le_of_ble_eq_true rfl) (Nat.le_of_ble_eq_true rfl) rfl (by decide) rfl ?_
  refine go_putF fX12_25 dX12_init_47 rfl (fun _ _ _ h => by cases h; exact ⟨rfl, rfl⟩) rfl (fun _ => rfl) (fun _ => rfl) (Nat.le_of_ble_eq_true rfl) ?_
  refine go_aload_n dX12_init_50 rfl ?_
  refine go_bipush (40) dX12_init_51 (by decide) ?_
  refine go_newI (nw := 7) 40 dX12_init_53 rfl (by decide) (Nat.le_of_ble_eq_true rfl) (Nat.le_of_ble_eq_true rfl) rfl (by decide) rfl ?_
  refine go_putF fX12_28 dX12_init_55 rfl (fun _ _ _ h => by cases h; exact ⟨rfl, rfl⟩) rfl (fun _ => rfl) (fun _ => rfl) (Nat.le_of_ble_eq_true rfl) ?_
  refine go_aload_n dX12_init_58 rfl ?_
  refine go_bipush (12) dX12_init_59 (by decide) ?_
  refine go_newI (nw := 8) 12 dX12_init_61 rfl (by decide) (Nat.le_of_ble_eq_true rfl) (Nat.le_of_ble_eq_true rfl) rfl (by decide) rfl ?_
  refine go_putF fX12_31 dX12_init_63 rfl (fun _ _ _ h => by cases h; exact ⟨rfl, rfl⟩) rfl (fun _ => rfl) (fun _ => rfl) (Nat.le_of_ble_eq_true rfl) ?_
  refine go_aload_n dX12_init_66 rfl ?_
  refine go_iconst (3) dX12_init_67 (by decide) ?_
  refine go_newI (nw := 9) 3 dX12_init_68 rfl (by decide) (Nat.le_of_ble_eq_true rfl) (Nat.le_of_ble_eq_true rfl) rfl (by decide) rfl ?_
  refine go_putF fX12_34 dX12_init_70 rfl (fun _ _ _ h => by cases h; exact ⟨rfl, rfl⟩) rfl (fun _ => rfl) (fun _ => rfl) (Nat.le_of_ble_eq_true rfl) ?_
  refine go_aload_n dX12_init_73 rfl ?_
  refine go_bipush (12) dX12_init_74 (by decide) ?_
  refine go_newI (nw := 10) 12 dX12_init_76 rfl (by decide) (Nat.le_of_ble_eq_true rfl) (Nat.le_of_ble_eq_true rfl) rfl (by decide) rfl ?_
  refine go_putF fX12_37 dX12_init_78 rfl (fun _ _ _ h => by cases h; exact ⟨rfl, rfl⟩) rfl (fun _ => rfl) (fun _ => rfl) (Nat.le_of_ble_eq_true rfl) ?_
  refine go_aload_n dX12_init_81 rfl ?_
  refine go_bipush (12) dX12_init_82 (by decide) ?_
  refine go_newI (nw := 11) 12 dX12_init_84 rfl (by decide) (Nat.le_of_ble_eq_true rfl) (Nat.le_of_ble_eq_true rfl) rfl (by decide) rfl ?_
  refine go_putF fX12_40 dX12_init_86 rfl (fun _ _ _ h => by cases h; exact ⟨rfl, rfl⟩) rfl (fun _ => rfl) (fun _ => rfl) (Nat.le_of_ble_eq_true rfl) ?_
  refine go_aload_n dX12_init_89 rfl ?_
  refine go_bipush (13) dX12_init_90 (by decide) ?_
  refine go_newI (nw := 12) 13 dX12_init_92 rfl (by decide) (Nat.le_of_ble_eq_true rfl) (Nat.le_of_ble_eq_true rfl) rfl (by decide) rfl ?_
  refine go_putF fX12_43 dX12_init_94 rfl (fun _ _ _ h => by cases h; exact ⟨rfl, rfl⟩) rfl (fun _ => rfl) (fun _ => rfl) (Nat.le_of_ble_eq_true rfl) ?_
  refine go_aload_n dX12_init_97 rfl ?_
  refine go_bipush (13) dX12_init_98 (by decide) ?_
  refine go_newI (nw := 13) 13 dX12_init_100 rfl (by decide) (Nat.le_of_ble_eq_true rfl) (Nat.le_of_ble_eq_true rfl) rfl (by decide) rfl ?_
  refine go_putF fX12_46 dX12_init_102 rfl (fun _ _ _ h => by cases h; exact ⟨rfl, rfl⟩) rfl (fun _ => rfl) (fun _ => rfl) (Nat.le_of_ble_eq_true rfl) ?_
  refine go_aload_n dX12_init_105 rfl ?_
  refine go_bipush (9) dX12_init_106 (by decide) ?_
  refine go_newI (nw := 14) 9 dX12_init_108 rfl (by decide) (Nat.le_of_ble_eq_true rfl) (Nat.le_of_ble_eq_true rfl) rfl (by decide) rfl ?_
  refine go_putF fX12_49 dX12_init_110 rfl (fun _ _ _ h => by cases h; exact ⟨rfl, rfl⟩) rfl (fun _ => rfl) (fun _ => rfl) (Nat.le_of_ble_eq_true rfl) ?_
  refine go_aload_n dX12_init_113 rfl ?_
  refine go_bipush (10) dX12_init_114 (by decide) ?_
  refine go_newI (nw := 15) 10 dX12_init_116 rfl (by decide) (Nat.le_of_ble_eq_true rfl) (Nat.le_of_ble_eq_true rfl) rfl (by decide) rfl ?_
  refine go_putF fX12_52 dX12_init_118 rfl (fun _ _ _ h => by cases h; exact ⟨rfl, rfl⟩) rfl (fun _ => rfl) (fun _ => rfl) (Nat.le_of_ble_eq_true rfl) ?_
  refine go_aload_n dX12_init_121 rfl ?_
  refine go_bipush (10) dX12_init_122 (by decide) ?_
  refine go_newI (nw := 16) 10 dX12_init_124 rfl (by decide) (Nat.le_of_ble_eq_true rfl) (Nat.le_of_ble_eq_true rfl) rfl (by decide) rfl ?_
  refine go_putF fX12_55 dX12_init_126 rfl (fun _ _ _ h => by cases h; exact ⟨rfl, rfl⟩) rfl (fun _ => rfl) (fun _ => rfl) (Nat.le_of_ble_eq_true rfl) ?_
  refine go_aload_n dX12_init_129 rfl ?_
  refine go_bipush (10) dX12_init_130 (by decide) ?_
  refine go_newL (nw := 17) 10 dX12_init_132 rfl (by decide) (Nat.le_of_ble_eq_true rfl) (Nat.le_of_ble_eq_true rfl) rfl (by decide) rfl ?_
  refine go_putF fX12_58 dX12_init_134 rfl (fun _ _ _ h => by cases h; exact ⟨rfl, rfl⟩) rfl (fun _ => rfl) (fun _ => rfl) (Nat.le_of_ble_eq_true rfl) ?_
  refine go_aload_n dX12_init_137 rfl ?_
  refine go_bipush (8) dX12_init_138 (by decide) ?_
  refine go_newI (nw := 18) 8 dX12_init_140 rfl (by decide) (Nat.le_of_ble_eq_true rfl) (Nat.le_of_ble_eq_true rfl) rfl (by decide) rfl ?_
  refine go_putF fX12_62 dX12_init_142 rfl (fun _ _ _ h => by cases h; exact ⟨rfl, rfl⟩) rfl (fun _ => rfl) (fun _ => rfl) (Nat.le_of_ble_eq_true rfl) ?_
  refine go_aload_n dX12_init_145 rfl ?_
  refine go_bipush (16) dX12_init_146 (by decide) ?_
  refine go_newI (nw := 19) 16 dX12_init_148 rfl (by decide) (Nat.le_of_ble_eq_true rfl) (Nat.le_of_ble_eq_true rfl) rfl (by decide) rfl ?_
  refine go_putF fX12_65 dX12_init_150 rfl (fun _ _ _ h => by cases h; exact ⟨rfl, rfl⟩) rfl (fun _ => rfl) (fun _ => rfl) (Nat.le_of_ble_eq_true rfl) ?_
  refine go_aload_n dX12_init_153 rfl ?_
  refine go_bipush (48) dX12_init_154 (by decide) ?_
  refine go_newI (nw := 20) 48 dX12_init_156 rfl (by decide) (Nat.le_of_ble_eq_true rfl) (Nat.le_of_ble_eq_true rfl) rfl (by decide) rfl ?_
  refine go_putF fX12_68 dX12_init_158 rfl (fun _ _ _ h => by cases h; exact ⟨rfl, rfl⟩) rfl (fun _ => rfl) (fun _ => rfl) (Nat.le_of_ble_eq_true rfl) ?_
  refine go_iconst (0) dX12_init_161 (by decide) ?_
  refine go_istore_n dX12_init_162 (by decide) ?_
  refine go_iload_n dX12_init_163 rfl ?_
  refine go_iconst (4) dX12_init_164 (by decide) ?_
  refine go_icmp_ge 181 dX12_init_165 (by decide) (fun c_165 => absurd c_165 (by decide)) (fun _ => ?_)
  refine go_aload_n dX12_init_168 rfl ?_
  refine go_getf fX12_7 dX12_init_169 rfl rfl ?_
  refine go_iload_n dX12_init_172 rfl ?_
  refine go_iconst (-1) dX12_init_173 (by decide) ?_
  refine go_iast dX12_init_174 rfl (vp_in_nI (n := 0) (by decide) (by decide)) ?_
  refine go_iincN (1) dX12_init_175 rfl (by decide) (by decide) ?_
  refine go_goto 163 dX12_init_178 (by decide) ?_
  refine go_iload_n dX12_init_163 rfl ?_
  refine go_iconst (4) dX12_init_164 (by decide) ?_
  refine go_icmp_ge 181 dX12_init_165 (by decide) (fun c_165 => absurd c_165 (by decide)) (fun _ => ?_)
  refine go_aload_n dX12_init_168 rfl ?_
  refine go_getf fX12_7 dX12_init_169 rfl rfl ?_
  refine go_iload_n dX12_init_172 rfl ?_
  refine go_iconst (-1) dX12_init_173 (by decide) ?_
  refine go_iast dX12_init_174 rfl (vp_in_nI (n := 1) (by decide) (by decide)) ?_
  refine go_iincN (1) dX12_init_175 rfl (by decide) (by decide) ?_
  refine go_goto 163 dX12_init_178 (by decide) ?_
  refine go_iload_n dX12_init_163 rfl ?_
  refine go_iconst (4) dX12_init_164 (by decide) ?_
  refine go_icmp_ge 181 dX12_init_165 (by decide) (fun c_165 => absurd c_165 (by decide)) (fun _ => ?_)
  refine go_aload_n dX12_init_168 rfl ?_
  refine go_getf fX12_7 dX12_init_169 rfl rfl ?_
  refine go_iload_n dX12_init_172 rfl ?_
  refine go_iconst (-1) dX12_init_173 (by decide) ?_
  refine go_iast dX12_init_174 rfl (vp_in_nI (n := 2) (by decide) (by decide)) ?_
  refine go_iincN (1) dX12_init_175 rfl (by decide) (by decide) ?_
  refine go_goto 163 dX12_init_178 (by decide) ?_
  refine go_iload_n dX12_init_163 rfl ?_
  refine go_iconst (4) dX12_init_164 (by decide) ?_
  refine go_icmp_ge 181 dX12_init_165 (by decide) (fun c_165 => absurd c_165 (by decide)) (fun _ => ?_)
  refine go_aload_n dX12_init_168 rfl ?_
  refine go_getf fX12_7 dX12_init_169 rfl rfl ?_
  refine go_iload_n dX12_init_172 rfl ?_
  refine go_iconst (-1) dX12_init_173 (by decide) ?_
  refine go_iast dX12_init_174 rfl (vp_in_nI (n := 3) (by decide) (by decide)) ?_
  refine go_iincN (1) dX12_init_175 rfl (by decide) (by decide) ?_
  refine go_goto 163 dX12_init_178 (by decide) ?_
  refine go_iload_n dX12_init_163 rfl ?_
  refine go_iconst (4) dX12_init_164 (by decide) ?_
  refine go_icmp_ge 181 dX12_init_165 (by decide) (fun _ => ?_) (fun c_165 => absurd (by decide) c_165)
  refine go_aload_n dX12_init_181 rfl ?_
  refine go_getf fX12_34 dX12_init_182 rfl rfl ?_
  refine go_iconst (0) dX12_init_185 (by decide) ?_
  refine go_iconst (5) dX12_init_186 (by decide) ?_
  refine go_iast dX12_init_187 rfl (vp_in_nI (n := 0) (by decide) (by decide)) ?_
  refine go_aload_n dX12_init_188 rfl ?_
  refine go_getf fX12_34 dX12_init_189 rfl rfl ?_
  refine go_iconst (1) dX12_init_192 (by decide) ?_
  refine go_iconst (5) dX12_init_193 (by decide) ?_
  refine go_iast dX12_init_194 rfl (vp_in_nI (n := 1) (by decide) (by decide)) ?_
  refine go_aload_n dX12_init_195 rfl ?_
  refine go_getf fX12_34 dX12_init_196 rfl rfl ?_
  refine go_iconst (2) dX12_init_199 (by decide) ?_
  refine go_iconst (5) dX12_init_200 (by decide) ?_
  refine go_iast dX12_init_201 rfl (vp_in_nI (n := 2) (by decide) (by decide)) ?_
  refine go_return dX12_init_202 rfl (Nat.le_of_ble_eq_true rfl) (Nat.le_of_ble_eq_true rfl) ?_
  exact ⟨rfl, rfl⟩
set_option maxHeartbeats 4000000 in
set_option maxRecDepth 100000 in
theorem ev_X11_init  : Ev MX11_init [.ref 0] [zO 9 [.null, .null, .null, .null, .null, .null, .null, .null, .null, .null, .null, .int 0]] (fun v w => v = none ∧ ∃ ft2 : Nat → Int32, w = (cwd (0, (fun _ => 0)) (0, (fun _ => 0)) (0, -1, (fun _ => 0)) (0, -1, (fun _ => 0)) (5, 5, 5) (0, 5, 0, (fun _ => 0), (fun _ => 0), upd (fun _ => 0) 0 5, upd (fun _ => 0) 0 0, vp_updL (fun _ => 0) 0 1, upd (fun _ => 0) 0 0, ft2) (0, 0, 0, (fun _ => 0), (fun _ => 0), (fun _ => 0), (fun _ => 0), (fun _ => 0), (fun _ => 0), (fun _ => 0)) (0, 0, 0, 0, 0, 0, 0, (fun _ => 0), (fun _ => 0), (fun _ => 0), (fun _ => 0)) (0, (fun _ => 0), (fun _ => 0)) (1, 0, 0, (fun _ => 0)) (1, 0, 0, (fun _ => 0)) (1, 0, 0, (fun _ => 0)) (1, 0, 0, (fun _ => 0)) (fun _ => 0) 0) ∧ ∀ i, i < 8 → ft2 i = -1) := by
  refine ev_of bX11_init [some (.ref 0), none] (Nat.le_of_ble_eq_true rfl) rfl ?_
  refine go_aload_n dX11_init_0 rfl ?_
  refine go_objInit dX11_init_1 lX11_1 oiW ocW (Nat.le_of_ble_eq_true rfl) (Nat.le_of_ble_eq_true rfl) ?_
  refine go_aload_n dX11_init_4 rfl ?_
  refine go_new (ci := 8) (nw := 1) [.null, .int 0] dX11_init_5 clX11_7 it_X10 in_X10 rfl (fun j hj => by match j, hj with | 0, _ => rfl | 1, _ => rfl) (fun _ => rfl) (Nat.le_of_ble_eq_true rfl) (Nat.le_of_ble_eq_true rfl) rfl (by decide) rfl ?_
  refine go_dup dX11_init_8 rfl ?_
  refine go_bipush (47) dX11_init_9 (by decide) ?_
  refine go_callA (z := MX10_init) [1] [zO 9 [.null, .null, .null, .null, .null, .null, .null, .null, .null, .null, .null, .int 0], zO 8 [.ref 2, .int 0], zI 47 (fun _ => 0)] dX11_init_11 lX11_11 sX10_init rfl ev_text47 rfl rfl rfl rfl rfl rfl rfl rfl rfl rfl rfl ?_
  refine go_putF fX11_14 dX11_init_14 rfl (fun _ _ _ h => by cases h; exact ⟨rfl, rfl⟩) rfl (fun _ => rfl) (fun _ => rfl) (Nat.le_of_ble_eq_true rfl) ?_
  refine go_aload_n dX11_init_17 rfl ?_
  refine go_new (ci := 8) (nw := 3) [.null, .int 0] dX11_init_18 clX11_7 it_X10 in_X10 rfl (fun j hj => by match j, hj with | 0, _ => rfl | 1, _ => rfl) (fun _ => rfl) (Nat.le_of_ble_eq_true rfl) (Nat.le_of_ble_eq_true rfl) rfl (by decide) rfl ?_
  refine go_dup dX11_init_21 rfl ?_
  refine go_bipush (12) dX11_init_22 (by decide) ?_
  refine go_callA (z := MX10_init) [3] [zO 9 [.ref 1, .null, .null, .null, .null, .null, .null, .null, .null, .null, .null, .int 0], zO 8 [.ref 2, .int 0], zI 47 (fun _ => 0), zO 8 [.ref 4, .int 0], zI 12 (fun _ => 0)] dX11_init_24 lX11_11 sX10_init rfl ev_text12 rfl rfl rfl rfl rfl rfl rfl rfl rfl rfl rfl ?_
  refine go_putF fX11_18 dX11_init_27 rfl (fun _ _ _ h => by cases h; exact ⟨rfl, rfl⟩) rfl (fun _ => rfl) (fun _ => rfl) (Nat.le_of_ble_eq_true rfl) ?_
  refine go_aload_n dX11_init_30 rfl ?_
  refine go_new (ci := 1) (nw := 5) [.null, .int 0, .int 0] dX11_init_31 clX11_21 it_X2 in_X2 rfl (fun j hj => by match j, hj with | 0, _ => rfl | 1, _ => rfl | 2, _ => rfl) (fun _ => rfl) (Nat.le_of_ble_eq_true rfl) (Nat.le_of_ble_eq_true rfl) rfl (by decide) rfl ?_
  refine go_dup dX11_init_34 rfl ?_
  refine go_callN (z := MX2_init) [5] [zO 9 [.ref 1, .ref 3, .null, .null, .null, .null, .null, .null, .null, .null, .null, .int 0], zO 8 [.ref 2, .int 0], zI 47 (fun _ => 0), zO 8 [.ref 4, .int 0], zI 12 (fun _ => 0), zO 1 [.ref 6, .int 0, .int (-1)], zI 40 (fun _ => 0)] dX11_init_35 (List.mem_of_getElem? (i := 0) rfl) sX2_init rfl ev_X2_init rfl rfl rfl rfl rfl rfl rfl rfl rfl rfl rfl ?_
  refine go_putF fX11_24 dX11_init_38 rfl (fun _ _ _ h => by cases h; exact ⟨rfl, rfl⟩) rfl (fun _ => rfl) (fun _ => rfl) (Nat.le_of_ble_eq_true rfl) ?_
  refine go_aload_n dX11_init_41 rfl ?_
  refine go_new (ci := 3) (nw := 7) [.null, .int 0, .int 0] dX11_init_42 clX11_28 it_X4 in_X4 rfl (fun j hj => by match j, hj with | 0, _ => rfl | 1, _ => rfl | 2, _ => rfl) (fun _ => rfl) (Nat.le_of_ble_eq_true rfl) (Nat.le_of_ble_eq_true rfl) rfl (by decide) rfl ?_
  refine go_dup dX11_init_45 rfl ?_
  refine go_callN (z := MX4_init) [7] [zO 9 [.ref 1, .ref 3, .ref 5, .null, .null, .null, .null, .null, .null, .null, .null, .int 0], zO 8 [.ref 2, .int 0], zI 47 (fun _ => 0), zO 8 [.ref 4, .int 0], zI 12 (fun _ => 0), zO 1 [.ref 6, .int 0, .int (-1)], zI 40 (fun _ => 0), zO 3 [.ref 8, .int 0, .int (-1)], zI 12 (fun _ => 0)] dX11_init_46 (List.mem_of_getElem? (i := 1) rfl) sX4_init rfl ev_X4_init rfl rfl rfl rfl rfl rfl rfl rfl rfl rfl rfl ?_
  refine go_putF fX11_31 dX11_init_49 rfl (fun _ _ _ h => by cases h; exact ⟨rfl, rfl⟩) rfl (fun _ => rfl) (fun _ => rfl) (Nat.le_of_ble_eq_true rfl) ?_
  refine go_aload_n dX11_init_52 rfl ?_
  refine go_new (ci := 7) (nw := 9) [.int 0, .int 0, .int 0] dX11_init_53 clX11_35 it_X9 in_X9 rfl (fun j hj => by match j, hj with | 0, _ => rfl | 1, _ => rfl | 2, _ => rfl) (fun _ => rfl) (Nat.le_of_ble_eq_true rfl) (Nat.le_of_ble_eq_true rfl) rfl (by decide) rfl ?_
  refine go_dup dX11_init_56 rfl ?_
  refine go_callN (z := MX9_init) [9] [zO 9 [.ref 1, .ref 3, .ref 5, .ref 7, .null, .null, .null, .null, .null, .null, .null, .int 0], zO 8 [.ref 2, .int 0], zI 47 (fun _ => 0), zO 8 [.ref 4, .int 0], zI 12 (fun _ => 0), zO 1 [.ref 6, .int 0, .int (-1)], zI 40 (fun _ => 0), zO 3 [.ref 8, .int 0, .int (-1)], zI 12 (fun _ => 0), zO 7 [.int 5, .int 5, .int 5]] dX11_init_57 (List.mem_of_getElem? (i := 2) rfl) sX9_init rfl ev_X9_init rfl rfl rfl rfl rfl rfl rfl rfl rfl rfl rfl ?_
  refine go_putF fX11_38 dX11_init_60 rfl (fun _ _ _ h => by cases h; exact ⟨rfl, rfl⟩) rfl (fun _ => rfl) (fun _ => rfl) (Nat.le_of_ble_eq_true rfl) ?_
  refine go_aload_n dX11_init_63 rfl ?_
  refine go_new (ci := 0) (nw := 10) [.null, .null, .null, .null, .null, .null, .null, .int 0, .int 0, .long 0] dX11_init_64 clX11_42 it_X0 in_X0 rfl (fun j hj => by match j, hj with | 0, _ => rfl | 1, _ => rfl | 2, _ => rfl | 3, _ => rfl | 4, _ => rfl | 5, _ => rfl | 6, _ => rfl | 7, _ => rfl | 8, _ => rfl | 9, _ => rfl) (fun _ => rfl) (Nat.le_of_ble_eq_true rfl) (Nat.le_of_ble_eq_true rfl) rfl (by decide) rfl ?_
  refine go_dup dX11_init_67 rfl ?_
  refine go_callN (z := MX0_init) [10] [zO 9 [.ref 1, .ref 3, .ref 5, .ref 7, .ref 9, .null, .null, .null, .null, .null, .null, .int 0], zO 8 [.ref 2, .int 0], zI 47 (fun _ => 0), zO 8 [.ref 4, .int 0], zI 12 (fun _ => 0), zO 1 [.ref 6, .int 0, .int (-1)], zI 40 (fun _ => 0), zO 3 [.ref 8, .int 0, .int (-1)], zI 12 (fun _ => 0), zO 7 [.int 5, .int 5, .int 5], zO 0 [.ref 11, .ref 12, .ref 13, .ref 14, .ref 15, .ref 16, .ref 17, .int 0, .int 0, .long 0], zI 12 (fun _ => 0), zI 12 (fun _ => 0), zI 13 (fun _ => 0), zI 13 (fun _ => 0), zL 13 (fun _ => 0), zI 13 (fun _ => 0), zI 8 (fun _ => 0)] dX11_init_68 (List.mem_of_getElem? (i := 3) rfl) sX0_init rfl ev_X0_init rfl rfl rfl rfl rfl rfl rfl rfl rfl rfl rfl ?_
  refine go_putF fX11_45 dX11_init_71 rfl (fun _ _ _ h => by cases h; exact ⟨rfl, rfl⟩) rfl (fun _ => rfl) (fun _ => rfl) (Nat.le_of_ble_eq_true rfl) ?_
  refine go_aload_n dX11_init_74 rfl ?_
  refine go_new (ci := 0) (nw := 18) [.null, .null, .null, .null, .null, .null, .null, .int 0, .int 0, .long 0] dX11_init_75 clX11_42 it_X0 in_X0 rfl (fun j hj => by match j, hj with | 0, _ => rfl | 1, _ => rfl | 2, _ => rfl | 3, _ => rfl | 4, _ => rfl | 5, _ => rfl | 6, _ => rfl | 7, _ => rfl | 8, _ => rfl | 9, _ => rfl) (fun _ => rfl) (Nat.le_of_ble_eq_true rfl) (Nat.le_of_ble_eq_true rfl) rfl (by decide) rfl ?_
  refine go_dup dX11_init_78 rfl ?_
  refine go_callN (z := MX0_init) [18] [zO 9 [.ref 1, .ref 3, .ref 5, .ref 7, .ref 9, .ref 10, .null, .null, .null, .null, .null, .int 0], zO 8 [.ref 2, .int 0], zI 47 (fun _ => 0), zO 8 [.ref 4, .int 0], zI 12 (fun _ => 0), zO 1 [.ref 6, .int 0, .int (-1)], zI 40 (fun _ => 0), zO 3 [.ref 8, .int 0, .int (-1)], zI 12 (fun _ => 0), zO 7 [.int 5, .int 5, .int 5], zO 0 [.ref 11, .ref 12, .ref 13, .ref 14, .ref 15, .ref 16, .ref 17, .int 0, .int 0, .long 0], zI 12 (fun _ => 0), zI 12 (fun _ => 0), zI 13 (fun _ => 0), zI 13 (fun _ => 0), zL 13 (fun _ => 0), zI 13 (fun _ => 0), zI 8 (fun _ => 0), zO 0 [.ref 19, .ref 20, .ref 21, .ref 22, .ref 23, .ref 24, .ref 25, .int 0, .int 0, .long 0], zI 12 (fun _ => 0), zI 12 (fun _ => 0), zI 13 (fun _ => 0), zI 13 (fun _ => 0), zL 13 (fun _ => 0), zI 13 (fun _ => 0), zI 8 (fun _ => 0)] dX11_init_79 (List.mem_of_getElem? (i := 3) rfl) sX0_init rfl ev_X0_init rfl rfl rfl rfl rfl rfl rfl rfl rfl rfl rfl ?_
  refine go_putF fX11_49 dX11_init_82 rfl (fun _ _ _ h => by cases h; exact ⟨rfl, rfl⟩) rfl (fun _ => rfl) (fun _ => rfl) (Nat.le_of_ble_eq_true rfl) ?_
  refine go_aload_n dX11_init_85 rfl ?_
  refine go_new (ci := 4) (nw := 26) [.null, .null, .null, .null, .int 0, .int 0, .int 0, .int 0, .int 0, .long 0, .int 0] dX11_init_86 clX11_52 it_X5 in_X5 rfl (fun j hj => by match j, hj with | 0, _ => rfl | 1, _ => rfl | 2, _ => rfl | 3, _ => rfl | 4, _ => rfl | 5, _ => rfl | 6, _ => rfl | 7, _ => rfl | 8, _ => rfl | 9, _ => rfl | 10, _ => rfl) (fun _ => rfl) (Nat.le_of_ble_eq_true rfl) (Nat.le_of_ble_eq_true rfl) rfl (by decide) rfl ?_
  refine go_dup dX11_init_89 rfl ?_
  refine go_callN (z := MX5_init) [26] [zO 9 [.ref 1, .ref 3, .ref 5, .ref 7, .ref 9, .ref 10, .ref 18, .null, .null, .null, .null, .int 0], zO 8 [.ref 2, .int 0], zI 47 (fun _ => 0), zO 8 [.ref 4, .int 0], zI 12 (fun _ => 0), zO 1 [.ref 6, .int 0, .int (-1)], zI 40 (fun _ => 0), zO 3 [.ref 8, .int 0, .int (-1)], zI 12 (fun _ => 0), zO 7 [.int 5, .int 5, .int 5], zO 0 [.ref 11, .ref 12, .ref 13, .ref 14, .ref 15, .ref 16, .ref 17, .int 0, .int 0, .long 0], zI 12 (fun _ => 0), zI 12 (fun _ => 0), zI 13 (fun _ => 0), zI 13 (fun _ => 0), zL 13 (fun _ => 0), zI 13 (fun _ => 0), zI 8 (fun _ => 0), zO 0 [.ref 19, .ref 20, .ref 21, .ref 22, .ref 23, .ref 24, .ref 25, .int 0, .int 0, .long 0], zI 12 (fun _ => 0), zI 12 (fun _ => 0), zI 13 (fun _ => 0), zI 13 (fun _ => 0), zL 13 (fun _ => 0), zI 13 (fun _ => 0), zI 8 (fun _ => 0), zO 4 [.ref 27, .ref 28, .ref 29, .ref 30, .int 0, .int 0, .int 0, .int 0, .int 0, .long 0, .int 0], zL 2560 (fun _ => 0), zI 80 (fun _ => 0), zI 80 (fun _ => 0), zI 8 (fun _ => 0)] dX11_init_90 (List.mem_of_getElem? (i := 4) rfl) sX5_init rfl ev_X5_init rfl rfl rfl rfl rfl rfl rfl rfl rfl rfl rfl ?_
  refine go_putF fX11_55 dX11_init_93 rfl (fun _ _ _ h => by cases h; exact ⟨rfl, rfl⟩) rfl (fun _ => rfl) (fun _ => rfl) (Nat.le_of_ble_eq_true rfl) ?_
  refine go_aload_n dX11_init_96 rfl ?_
  refine go_new (ci := 6) (nw := 31) [.null, .null, .int 0] dX11_init_97 clX11_59 it_X7 in_X7 rfl (fun j hj => by match j, hj with | 0, _ => rfl | 1, _ => rfl | 2, _ => rfl) (fun _ => rfl) (Nat.le_of_ble_eq_true rfl) (Nat.le_of_ble_eq_true rfl) rfl (by decide) rfl ?_
  refine go_dup dX11_init_100 rfl ?_
  refine go_callN (z := MX7_init) [31] [zO 9 [.ref 1, .ref 3, .ref 5, .ref 7, .ref 9, .ref 10, .ref 18, .ref 26, .null, .null, .null, .int 0], zO 8 [.ref 2, .int 0], zI 47 (fun _ => 0), zO 8 [.ref 4, .int 0], zI 12 (fun _ => 0), zO 1 [.ref 6, .int 0, .int (-1)], zI 40 (fun _ => 0), zO 3 [.ref 8, .int 0, .int (-1)], zI 12 (fun _ => 0), zO 7 [.int 5, .int 5, .int 5], zO 0 [.ref 11, .ref 12, .ref 13, .ref 14, .ref 15, .ref 16, .ref 17, .int 0, .int 0, .long 0], zI 12 (fun _ => 0), zI 12 (fun _ => 0), zI 13 (fun _ => 0), zI 13 (fun _ => 0), zL 13 (fun _ => 0), zI 13 (fun _ => 0), zI 8 (fun _ => 0), zO 0 [.ref 19, .ref 20, .ref 21, .ref 22, .ref 23, .ref 24, .ref 25, .int 0, .int 0, .long 0], zI 12 (fun _ => 0), zI 12 (fun _ => 0), zI 13 (fun _ => 0), zI 13 (fun _ => 0), zL 13 (fun _ => 0), zI 13 (fun _ => 0), zI 8 (fun _ => 0), zO 4 [.ref 27, .ref 28, .ref 29, .ref 30, .int 0, .int 0, .int 0, .int 0, .int 0, .long 0, .int 0], zL 2560 (fun _ => 0), zI 80 (fun _ => 0), zI 80 (fun _ => 0), zI 8 (fun _ => 0), zO 6 [.ref 32, .ref 33, .int 0], zI 8 (fun _ => 0), zI 8 (fun _ => 0)] dX11_init_101 (List.mem_of_getElem? (i := 5) rfl) sX7_init rfl ev_X7_init rfl rfl rfl rfl rfl rfl rfl rfl rfl rfl rfl ?_
  refine go_putF fX11_62 dX11_init_104 rfl (fun _ _ _ h => by cases h; exact ⟨rfl, rfl⟩) rfl (fun _ => rfl) (fun _ => rfl) (Nat.le_of_ble_eq_true rfl) ?_
  refine go_aload_n dX11_init_107 rfl ?_
  refine go_iconst (4) dX11_init_108 (by decide) ?_
  refine go_newR (nw := 34) 4 dX11_init_109 clX11_66 rfl (by decide) (Nat.le_of_ble_eq_true rfl) (Nat.le_of_ble_eq_true rfl) rfl (by decide) rfl ?_
  refine go_putF fX11_68 dX11_init_112 rfl (fun _ _ _ h => by cases h; exact ⟨rfl, rfl⟩) rfl (fun _ => rfl) (fun _ => rfl) (Nat.le_of_ble_eq_true rfl) ?_
  refine go_aload_n dX11_init_115 rfl ?_
  refine go_bipush (48) dX11_init_116 (by decide) ?_
  refine go_newI (nw := 35) 48 dX11_init_118 rfl (by decide) (Nat.le_of_ble_eq_true rfl) (Nat.le_of_ble_eq_true rfl) rfl (by decide) rfl ?_
  refine go_putF fX11_72 dX11_init_120 rfl (fun _ _ _ h => by cases h; exact ⟨rfl, rfl⟩) rfl (fun _ => rfl) (fun _ => rfl) (Nat.le_of_ble_eq_true rfl) ?_
  refine go_iconst (0) dX11_init_123 (by decide) ?_
  refine go_istore_n dX11_init_124 (by decide) ?_
  refine go_iload_n dX11_init_125 rfl ?_
  refine go_iconst (4) dX11_init_126 (by decide) ?_
  refine go_icmp_ge 149 dX11_init_127 (by decide) (fun c_127 => absurd c_127 (by decide)) (fun _ => ?_)
  refine go_aload_n dX11_init_130 rfl ?_
  refine go_getf fX11_68 dX11_init_131 rfl rfl ?_
  refine go_iload_n dX11_init_134 rfl ?_
  refine go_new (ci := 5) (nw := 36) [.null, .int 0, .int 0, .int 0] dX11_init_135 clX11_66 it_X6 in_X6 rfl (fun j hj => by match j, hj with | 0, _ => rfl | 1, _ => rfl | 2, _ => rfl | 3, _ => rfl) (fun _ => rfl) (Nat.le_of_ble_eq_true rfl) (Nat.le_of_ble_eq_true rfl) rfl (by decide) rfl ?_
  refine go_dup dX11_init_138 rfl ?_
  refine go_callN (z := MX6_init) [36] [zO 9 [.ref 1, .ref 3, .ref 5, .ref 7, .ref 9, .ref 10, .ref 18, .ref 26, .ref 31, .ref 34, .ref 35, .int 0], zO 8 [.ref 2, .int 0], zI 47 (fun _ => 0), zO 8 [.ref 4, .int 0], zI 12 (fun _ => 0), zO 1 [.ref 6, .int 0, .int (-1)], zI 40 (fun _ => 0), zO 3 [.ref 8, .int 0, .int (-1)], zI 12 (fun _ => 0), zO 7 [.int 5, .int 5, .int 5], zO 0 [.ref 11, .ref 12, .ref 13, .ref 14, .ref 15, .ref 16, .ref 17, .int 0, .int 0, .long 0], zI 12 (fun _ => 0), zI 12 (fun _ => 0), zI 13 (fun _ => 0), zI 13 (fun _ => 0), zL 13 (fun _ => 0), zI 13 (fun _ => 0), zI 8 (fun _ => 0), zO 0 [.ref 19, .ref 20, .ref 21, .ref 22, .ref 23, .ref 24, .ref 25, .int 0, .int 0, .long 0], zI 12 (fun _ => 0), zI 12 (fun _ => 0), zI 13 (fun _ => 0), zI 13 (fun _ => 0), zL 13 (fun _ => 0), zI 13 (fun _ => 0), zI 8 (fun _ => 0), zO 4 [.ref 27, .ref 28, .ref 29, .ref 30, .int 0, .int 0, .int 0, .int 0, .int 0, .long 0, .int 0], zL 2560 (fun _ => 0), zI 80 (fun _ => 0), zI 80 (fun _ => 0), zI 8 (fun _ => 0), zO 6 [.ref 32, .ref 33, .int 0], zI 8 (fun _ => 0), zI 8 (fun _ => 0), zR 4 [none, none, none, none], zI 48 (fun _ => 0), zO 5 [.ref 37, .int 1, .int 0, .int 0], zI 60 (fun _ => 0)] dX11_init_139 (List.mem_of_getElem? (i := 6) rfl) sX6_init rfl ev_X6_init rfl rfl rfl rfl rfl rfl rfl rfl rfl rfl rfl ?_
  refine go_aast (ci := 5) dX11_init_142 rfl rfl ⟨_, _, rfl⟩ (vp_in_nI (n := 0) (by decide) (by decide)) rfl ?_
  refine go_iincN (1) dX11_init_143 rfl (by decide) (by decide) ?_
  refine go_goto 125 dX11_init_146 (by decide) ?_
  refine go_iload_n dX11_init_125 rfl ?_
  refine go_iconst (4) dX11_init_126 (by decide) ?_
  refine go_icmp_ge 149 dX11_init_127 (by decide) (fun c_127 => absurd c_127 (by decide)) (fun _ => ?_)
  refine go_aload_n dX11_init_130 rfl ?_
  refine go_getf fX11_68 dX11_init_131 rfl rfl ?_
  refine go_iload_n dX11_init_134 rfl ?_
  refine go_new (ci := 5) (nw := 38) [.null, .int 0, .int 0, .int 0] dX11_init_135 clX11_66 it_X6 in_X6 rfl (fun j hj => by match j, hj with | 0, _ => rfl | 1, _ => rfl | 2, _ => rfl | 3, _ => rfl) (fun _ => rfl) (Nat.le_of_ble_eq_true rfl) (Nat.le_of_ble_eq_true rfl) rfl (by decide) rfl ?_
  refine go_dup dX11_init_138 rfl ?_
  refine go_callN (z := MX6_init) [38] [zO 9 [.ref 1, .ref 3, .ref 5, .ref 7, .ref 9, .ref 10, .ref 18, .ref 26, .ref 31, .ref 34, .ref 35, .int 0], zO 8 [.ref 2, .int 0], zI 47 (fun _ => 0), zO 8 [.ref 4, .int 0], zI 12 (fun _ => 0), zO 1 [.ref 6, .int 0, .int (-1)], zI 40 (fun _ => 0), zO 3 [.ref 8, .int 0, .int (-1)], zI 12 (fun _ => 0), zO 7 [.int 5, .int 5, .int 5], zO 0 [.ref 11, .ref 12, .ref 13, .ref 14, .ref 15, .ref 16, .ref 17, .int 0, .int 0, .long 0], zI 12 (fun _ => 0), zI 12 (fun _ => 0), zI 13 (fun _ => 0), zI 13 (fun _ => 0), zL 13 (fun _ => 0), zI 13 (fun _ => 0), zI 8 (fun _ => 0), zO 0 [.ref 19, .ref 20, .ref 21, .ref 22, .ref 23, .ref 24, .ref 25, .int 0, .int 0, .long 0], zI 12 (fun _ => 0), zI 12 (fun _ => 0), zI 13 (fun _ => 0), zI 13 (fun _ => 0), zL 13 (fun _ => 0), zI 13 (fun _ => 0), zI 8 (fun _ => 0), zO 4 [.ref 27, .ref 28, .ref 29, .ref 30, .int 0, .int 0, .int 0, .int 0, .int 0, .long 0, .int 0], zL 2560 (fun _ => 0), zI 80 (fun _ => 0), zI 80 (fun _ => 0), zI 8 (fun _ => 0), zO 6 [.ref 32, .ref 33, .int 0], zI 8 (fun _ => 0), zI 8 (fun _ => 0), zR 4 [some 36, none, none, none], zI 48 (fun _ => 0), zO 5 [.ref 37, .int 1, .int 0, .int 0], zI 60 (fun _ => 0), zO 5 [.ref 39, .int 1, .int 0, .int 0], zI 60 (fun _ => 0)] dX11_init_139 (List.mem_of_getElem? (i := 6) rfl) sX6_init rfl ev_X6_init rfl rfl rfl rfl rfl rfl rfl rfl rfl rfl rfl ?_
  refine go_aast (ci := 5) dX11_init_142 rfl rfl ⟨_, _, rfl⟩ (vp_in_nI (n := 1) (by decide) (by decide)) rfl ?_
  refine go_iincN (1) dX11_init_143 rfl (by decide) (by decide) ?_
  refine go_goto 125 dX11_init_146 (by decide) ?_
  refine go_iload_n dX11_init_125 rfl ?_
  refine go_iconst (4) dX11_init_126 (by decide) ?_
  refine go_icmp_ge 149 dX11_init_127 (by decide) (fun c_127 => absurd c_127 (by decide)) (fun _ => ?_)
  refine go_aload_n dX11_init_130 rfl ?_
  refine go_getf fX11_68 dX11_init_131 rfl rfl ?_
  refine go_iload_n dX11_init_134 rfl ?_
  refine go_new (ci := 5) (nw := 40) [.null, .int 0, .int 0, .int 0] dX11_init_135 clX11_66 it_X6 in_X6 rfl (fun j hj => by match j, hj with | 0, _ => rfl | 1, _ => rfl | 2, _ => rfl | 3, _ => rfl) (fun _ => rfl) (Nat.le_of_ble_eq_true rfl) (Nat.le_of_ble_eq_true rfl) rfl (by decide) rfl ?_
  refine go_dup dX11_init_138 rfl ?_
  refine go_callN (z := MX6_init) [40] [zO 9 [.ref 1, .ref 3, .ref 5, .ref 7, .ref 9, .ref 10, .ref 18, .ref 26, .ref 31, .ref 34, .ref 35, .int 0], zO 8 [.ref 2, .int 0], zI 47 (fun _ => 0), zO 8 [.ref 4, .int 0], zI 12 (fun _ => 0), zO 1 [.ref 6, .int 0, .int (-1)], zI 40 (fun _ => 0), zO 3 [.ref 8, .int 0, .int (-1)], zI 12 (fun _ => 0), zO 7 [.int 5, .int 5, .int 5], zO 0 [.ref 11, .ref 12, .ref 13, .ref 14, .ref 15, .ref 16, .ref 17, .int 0, .int 0, .long 0], zI 12 (fun _ => 0), zI 12 (fun _ => 0), zI 13 (fun _ => 0), zI 13 (fun _ => 0), zL 13 (fun _ => 0), zI 13 (fun _ => 0), zI 8 (fun _ => 0), zO 0 [.ref 19, .ref 20, .ref 21, .ref 22, .ref 23, .ref 24, .ref 25, .int 0, .int 0, .long 0], zI 12 (fun _ => 0), zI 12 (fun _ => 0), zI 13 (fun _ => 0), zI 13 (fun _ => 0), zL 13 (fun _ => 0), zI 13 (fun _ => 0), zI 8 (fun _ => 0), zO 4 [.ref 27, .ref 28, .ref 29, .ref 30, .int 0, .int 0, .int 0, .int 0, .int 0, .long 0, .int 0], zL 2560 (fun _ => 0), zI 80 (fun _ => 0), zI 80 (fun _ => 0), zI 8 (fun _ => 0), zO 6 [.ref 32, .ref 33, .int 0], zI 8 (fun _ => 0), zI 8 (fun _ => 0), zR 4 [some 36, some 38, none, none], zI 48 (fun _ => 0), zO 5 [.ref 37, .int 1, .int 0, .int 0], zI 60 (fun _ => 0), zO 5 [.ref 39, .int 1, .int 0, .int 0], zI 60 (fun _ => 0), zO 5 [.ref 41, .int 1, .int 0, .int 0], zI 60 (fun _ => 0)] dX11_init_139 (List.mem_of_getElem? (i := 6) rfl) sX6_init rfl ev_X6_init rfl rfl rfl rfl rfl rfl rfl rfl rfl rfl rfl ?_
  refine go_aast (ci := 5) dX11_init_142 rfl rfl ⟨_, _, rfl⟩ (vp_in_nI (n := 2) (by decide) (by decide)) rfl ?_
  refine go_iincN (1) dX11_init_143 rfl (by decide) (by decide) ?_
  refine go_goto 125 dX11_init_146 (by decide) ?_
  refine go_iload_n dX11_init_125 rfl ?_
  refine go_iconst (4) dX11_init_126 (by decide) ?_
  refine go_icmp_ge 149 dX11_init_127 (by decide) (fun c_127 => absurd c_127 (by decide)) (fun _ => ?_)
  refine go_aload_n dX11_init_130 rfl ?_
  refine go_getf fX11_68 dX11_init_131 rfl rfl ?_
  refine go_iload_n dX11_init_134 rfl ?_
  refine go_new (ci := 5) (nw := 42) [.null, .int 0, .int 0, .int 0] dX11_init_135 clX11_66 it_X6 in_X6 rfl (fun j hj => by match j, hj with | 0, _ => rfl | 1, _ => rfl | 2, _ => rfl | 3, _ => rfl) (fun _ => rfl) (Nat.le_of_ble_eq_true rfl) (Nat.le_of_ble_eq_true rfl) rfl (by decide) rfl ?_
  refine go_dup dX11_init_138 rfl ?_
  refine go_callN (z := MX6_init) [42] [zO 9 [.ref 1, .ref 3, .ref 5, .ref 7, .ref 9, .ref 10, .ref 18, .ref 26, .ref 31, .ref 34, .ref 35, .int 0], zO 8 [.ref 2, .int 0], zI 47 (fun _ => 0), zO 8 [.ref 4, .int 0], zI 12 (fun _ => 0), zO 1 [.ref 6, .int 0, .int (-1)], zI 40 (fun _ => 0), zO 3 [.ref 8, .int 0, .int (-1)], zI 12 (fun _ => 0), zO 7 [.int 5, .int 5, .int 5], zO 0 [.ref 11, .ref 12, .ref 13, .ref 14, .ref 15, .ref 16, .ref 17, .int 0, .int 0, .long 0], zI 12 (fun _ => 0), zI 12 (fun _ => 0), zI 13 (fun _ => 0), zI 13 (fun _ => 0), zL 13 (fun _ => 0), zI 13 (fun _ => 0), zI 8 (fun _ => 0), zO 0 [.ref 19, .ref 20, .ref 21, .ref 22, .ref 23, .ref 24, .ref 25, .int 0, .int 0, .long 0], zI 12 (fun _ => 0), zI 12 (fun _ => 0), zI 13 (fun _ => 0), zI 13 (fun _ => 0), zL 13 (fun _ => 0), zI 13 (fun _ => 0), zI 8 (fun _ => 0), zO 4 [.ref 27, .ref 28, .ref 29, .ref 30, .int 0, .int 0, .int 0, .int 0, .int 0, .long 0, .int 0], zL 2560 (fun _ => 0), zI 80 (fun _ => 0), zI 80 (fun _ => 0), zI 8 (fun _ => 0), zO 6 [.ref 32, .ref 33, .int 0], zI 8 (fun _ => 0), zI 8 (fun _ => 0), zR 4 [some 36, some 38, some 40, none], zI 48 (fun _ => 0), zO 5 [.ref 37, .int 1, .int 0, .int 0], zI 60 (fun _ => 0), zO 5 [.ref 39, .int 1, .int 0, .int 0], zI 60 (fun _ => 0), zO 5 [.ref 41, .int 1, .int 0, .int 0], zI 60 (fun _ => 0), zO 5 [.ref 43, .int 1, .int 0, .int 0], zI 60 (fun _ => 0)] dX11_init_139 (List.mem_of_getElem? (i := 6) rfl) sX6_init rfl ev_X6_init rfl rfl rfl rfl rfl rfl rfl rfl rfl rfl rfl ?_
  refine go_aast (ci := 5) dX11_init_142 rfl rfl ⟨_, _, rfl⟩ (vp_in_nI (n := 3) (by decide) (by decide)) rfl ?_
  refine go_iincN (1) dX11_init_143 rfl (by decide) (by decide) ?_
  refine go_goto 125 dX11_init_146 (by decide) ?_
  refine go_iload_n dX11_init_125 rfl ?_
  refine go_iconst (4) dX11_init_126 (by decide) ?_
  refine go_icmp_ge 149 dX11_init_127 (by decide) (fun _ => ?_) (fun c_127 => absurd (by decide) c_127)
  refine go_aload_n dX11_init_149 rfl ?_
  refine go_getf fX11_45 dX11_init_150 rfl rfl ?_
  refine go_aload_n dX11_init_153 rfl ?_
  refine go_getf fX11_38 dX11_init_154 rfl rfl ?_
  refine go_getf fX11_77 dX11_init_157 rfl rfl ?_
  refine go_aload_n dX11_init_160 rfl ?_
  refine go_getf fX11_38 dX11_init_161 rfl rfl ?_
  refine go_getf fX11_81 dX11_init_164 rfl rfl ?_
  refine go_callV (z := MX0_setOut) [10, 11, 12, 13, 14, 15, 16, 17] dX11_init_167 lX11_84 sX0_setOut (ev_X0_setOut _ _ _ _ _ _ _ _ _ _ _ _) rfl rfl rfl rfl rfl ⟨_, _, rfl⟩ (fit_of rfl) (res_of rfl) (fun v w1 h => by obtain ⟨-, ft2, rfl, -⟩ := h; rfl) (fun v_167 w_167 h_167 => ?_)
  obtain ⟨rfl, ft2, rfl, hft⟩ := h_167
  refine go_return dX11_init_170 rfl (Nat.le_of_ble_eq_true rfl) (Nat.le_of_ble_eq_true rfl) ?_
  exact ⟨rfl, ft2, rfl, hft⟩
