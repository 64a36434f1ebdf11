theorem ev_textOf0 (t0 t1 : TX) (G N : TG) (T : TT) (C D : TC) (P : TP) (S : TS) (H0 H1 H2 H3 : TH) (ta : Nat → Int32) (lf : Int32) : Ev MX11_textOf [.ref 0, .int 0] (cwd t0 t1 G N T C D P S H0 H1 H2 H3 ta lf) (Rd (cwd t0 t1 G N T C D P S H0 H1 H2 H3 ta lf) (fun v => v = some (.ref 1))) := ev_X11_textOf t0 t1 G N T C D P S H0 H1 H2 H3 ta lf 0
theorem ev_textOf1 (t0 t1 : TX) (G N : TG) (T : TT) (C D : TC) (P : TP) (S : TS) (H0 H1 H2 H3 : TH) (ta : Nat → Int32) (lf : Int32) : Ev MX11_textOf [.ref 0, .int 1] (cwd t0 t1 G N T C D P S H0 H1 H2 H3 ta lf) (Rd (cwd t0 t1 G N T C D P S H0 H1 H2 H3 ta lf) (fun v => v = some (.ref 3))) := ev_X11_textOf t0 t1 G N T C D P S H0 H1 H2 H3 ta lf 1
/-- what a change of text 0 leaves -/
def Chg0 (u : TX) (t1 : TX) (N : TG) (T : TT) (D : TC) (P : TP) (S : TS) (H0 H1 H2 H3 : TH) (ta : Nat → Int32) (lf : Int32) (w : List AE) : Prop := ∃ (G2 : TG) (C2 : TC), w = cwd u t1 G2 N T C2 D (pmk P 0) S H0 H1 H2 H3 ta lf ∧ GInv u G2 ∧ CrsT G2.1 G2.2.2 (nmR N.2.2) (nI T.1) (nI T.2.1) (nI T.2.2) N.1 C2
def Chg1 (t0 : TX) (u : TX) (G : TG) (T : TT) (D : TC) (P : TP) (S : TS) (H0 H1 H2 H3 : TH) (ta : Nat → Int32) (lf : Int32) (w : List AE) : Prop := ∃ (N2 : TG) (C2 : TC), w = cwd t0 u G N2 T C2 D (pmk P 0) S H0 H1 H2 H3 ta lf ∧ NInv u N2 ∧ CrsT G.1 G.2.2 (nmR N2.2.2) (nI T.1) (nI T.2.1) (nI T.2.2) N2.1 C2
theorem nI_z {n : Nat} (hn : n < 2 ^ 31) (h : nI n = 0) : n = 0 := (nI_eq hn (by decide)).mp h
theorem nI_nz {n : Nat} (h : ¬ nI n = 0) : ¬ n = 0 := fun q => h (by rw [q]; rfl)
theorem ord_in {x : Int32} {ln : Nat} (h1 : ¬ x < -1) (h2 : ¬ x = -1) (h3 : ¬ nI ln ≤ x) (hl : ln ≤ 8) : vp_in x 8 := by
  rw [vp_in_iff]
  rw [Int32.lt_iff_toInt_lt] at h1
  rw [Int32.le_iff_toInt_le, nI_toInt (by omega)] at h3
  have e : (-1 : Int32).toInt = -1 := by decide
  have h4 : x.toInt ≠ -1 := fun q => h2 (Int32.toInt_inj.mp (by rw [q, e]))
  omega
set_option maxRecDepth 100000 in
theorem ev_type0 (t0 t1 : TX) (G N : TG) (T : TT) (C D : TC) (P : TP) (S : TS) (H0 H1 H2 H3 : TH) (ta : Nat → Int32) (lf : Int32) (h47 : t0.1 ≤ 47) (h12 : t1.1 ≤ 12) (hG : G.1 ≤ 8) (hN : NOK N) (b : Int32) : Ev MX11_type [.ref 0, .int 0, .int b] (cwd t0 t1 G N T C D P S H0 H1 H2 H3 ta lf) (fun v w => (b < 0 ∨ 255 < b) ∧ v = some (.int (-2)) ∧ w = (cwd t0 t1 G N T C D P S H0 H1 H2 H3 ta lf) ∨ ¬ (b < 0 ∨ 255 < b) ∧ t0.1 = 47 ∧ v = some (.int (-4)) ∧ w = (cwd t0 t1 G N T C D P S H0 H1 H2 H3 ta lf) ∨ ¬ (b < 0 ∨ 255 < b) ∧ t0.1 < 47 ∧ v = some (.int (nI (t0.1 + 1))) ∧ Chg0 (t0.1 + 1, upd t0.2 t0.1 b) t1 N T D P S H0 H1 H2 H3 ta lf w) := by
  refine ev_of bX11_type [some (.ref 0), some (.int 0), some (.int b), none] (Nat.le_of_ble_eq_true rfl) rfl ?_
  refine go_iload_n dX11_type_0 rfl ?_
  refine go_callSi (z := MX11_isText) [] dX11_type_1 lX11_88 sX11_isText (ev_X11_isText _) rfl rfl rfl rfl rfl rfl ?_
  refine go_if_eq 18 dX11_type_4 (by decide) (fun c_4 => absurd c_4 (by decide)) (fun _ => ?_)
  refine go_iload_n dX11_type_7 rfl ?_
  refine go_if_lt 18 dX11_type_8 (by decide) (fun c_8 => ?_) (fun c_8 => ?_)
  · refine go_bipush (-2) dX11_type_18 (by decide) ?_
    refine go_ireturn dX11_type_20 rfl rfl (Nat.le_of_ble_eq_true rfl) (Nat.le_of_ble_eq_true rfl) ?_
    exact Or.inl ⟨by first | exact Or.inl c_8 | exact Or.inr (by simpa using c_15), rfl, rfl⟩
  · refine go_iload_n dX11_type_11 rfl ?_
    refine go_sipush (255) dX11_type_12 (by decide) ?_
    refine go_icmp_le 21 dX11_type_15 (by decide) (fun c_15 => ?_) (fun c_15 => ?_)
    · refine go_aload_n dX11_type_21 rfl ?_
      refine go_iload_n dX11_type_22 rfl ?_
      refine go_callVsr (z := MX11_textOf) dX11_type_23 lX11_92 sX11_textOf (ev_textOf0 t0 t1 G N T C D P S H0 H1 H2 H3 ta lf) rfl rfl rfl ⟨_, _, rfl⟩ rfl rfl ?_
      refine go_astore_n dX11_type_26 (by decide) ?_
      refine go_aload_n dX11_type_27 rfl ?_
      refine go_callVi (z := MX10_isFull) [1, 2] dX11_type_28 lX11_96 sX10_isFull (ev_X10_isFull _ _ _) rfl rfl rfl rfl rfl ⟨_, _, rfl⟩ rfl rfl ?_
      refine go_if_eq 37 dX11_type_31 (by decide) (fun c_31 => ?_) (fun c_31 => ?_)
      · have hcap : t0.1 < 47 := Nat.lt_of_not_le fun q => by
          rw [if_neg (fun h => absurd (nI_le (a := 47) q (by omega)) (by simpa using h))] at c_31
          exact absurd c_31 (by decide)
        refine go_aload_n dX11_type_37 rfl ?_
        refine go_iload_n dX11_type_38 rfl ?_
        refine go_callVw (z := MX10_push) [1, 2] _ dX11_type_39 lX11_100 sX10_push (ev_X10_push 47 t0.1 hcap (by decide) b _) rfl rfl rfl rfl rfl ⟨_, _, rfl⟩ rfl rfl rfl rfl ?_
        refine go_aload_n dX11_type_42 rfl ?_
        refine go_iload_n dX11_type_43 rfl ?_
        refine go_callVs (z := MX11_readAnew) dX11_type_44 lX11_103 sX11_readAnew (ev_readAnew0 (t0.1 + 1, upd t0.2 t0.1 b) t1 G N T C D P S H0 H1 H2 H3 ta lf (by omega) hN) rfl rfl rfl ⟨_, _, rfl⟩ rfl rfl (fun v w1 h => by obtain ⟨-, G2, C2, rfl, -⟩ := h; rfl) (fun v_44 w_44 h_44 => ?_)
        obtain ⟨rfl, hch⟩ := h_44
        obtain ⟨G2, C2, rfl, hI1, hI2⟩ := hch
        refine go_aload_n dX11_type_47 rfl ?_
        refine go_getf fX11_106 dX11_type_48 rfl rfl ?_
        refine go_ireturn dX11_type_51 rfl rfl (Nat.le_of_ble_eq_true rfl) (Nat.le_of_ble_eq_true rfl) ?_
        exact Or.inr (Or.inr ⟨fun q => q.elim c_8 (fun q => absurd c_15 (by simpa using q)), hcap, rfl, _, C2, rfl, hI1, hI2⟩)
      · refine go_bipush (-4) dX11_type_34 (by decide) ?_
        refine go_ireturn dX11_type_36 rfl rfl (Nat.le_of_ble_eq_true rfl) (Nat.le_of_ble_eq_true rfl) ?_
        exact Or.inr (Or.inl ⟨fun q => q.elim c_8 (fun q => absurd c_15 (by simpa using q)), by
          by_cases q : t0.1 < 47
          · exact absurd (if_pos (nI_lt (a := t0.1) (b := 47) q (by decide))) c_31
          · omega, rfl, rfl⟩)
    · refine go_bipush (-2) dX11_type_18 (by decide) ?_
      refine go_ireturn dX11_type_20 rfl rfl (Nat.le_of_ble_eq_true rfl) (Nat.le_of_ble_eq_true rfl) ?_
      exact Or.inl ⟨by first | exact Or.inl c_8 | exact Or.inr (by simpa using c_15), rfl, rfl⟩
set_option maxRecDepth 100000 in
theorem ev_type1 (t0 t1 : TX) (G N : TG) (T : TT) (C D : TC) (P : TP) (S : TS) (H0 H1 H2 H3 : TH) (ta : Nat → Int32) (lf : Int32) (h47 : t0.1 ≤ 47) (h12 : t1.1 ≤ 12) (hG : G.1 ≤ 8) (hN : NOK N) (b : Int32) : Ev MX11_type [.ref 0, .int 1, .int b] (cwd t0 t1 G N T C D P S H0 H1 H2 H3 ta lf) (fun v w => (b < 0 ∨ 255 < b) ∧ v = some (.int (-2)) ∧ w = (cwd t0 t1 G N T C D P S H0 H1 H2 H3 ta lf) ∨ ¬ (b < 0 ∨ 255 < b) ∧ t1.1 = 12 ∧ v = some (.int (-4)) ∧ w = (cwd t0 t1 G N T C D P S H0 H1 H2 H3 ta lf) ∨ ¬ (b < 0 ∨ 255 < b) ∧ t1.1 < 12 ∧ v = some (.int (nI (t1.1 + 1))) ∧ Chg1 t0 (t1.1 + 1, upd t1.2 t1.1 b) G T D P S H0 H1 H2 H3 ta lf w) := by
  refine ev_of bX11_type [some (.ref 0), some (.int 1), some (.int b), none] (Nat.le_of_ble_eq_true rfl) rfl ?_
  refine go_iload_n dX11_type_0 rfl ?_
  refine go_callSi (z := MX11_isText) [] dX11_type_1 lX11_88 sX11_isText (ev_X11_isText _) rfl rfl rfl rfl rfl rfl ?_
  refine go_if_eq 18 dX11_type_4 (by decide) (fun c_4 => absurd c_4 (by decide)) (fun _ => ?_)
  refine go_iload_n dX11_type_7 rfl ?_
  refine go_if_lt 18 dX11_type_8 (by decide) (fun c_8 => ?_) (fun c_8 => ?_)
  · refine go_bipush (-2) dX11_type_18 (by decide) ?_
    refine go_ireturn dX11_type_20 rfl rfl (Nat.le_of_ble_eq_true rfl) (Nat.le_of_ble_eq_true rfl) ?_
    exact Or.inl ⟨by first | exact Or.inl c_8 | exact Or.inr (by simpa using c_15), rfl, rfl⟩
  · refine go_iload_n dX11_type_11 rfl ?_
    refine go_sipush (255) dX11_type_12 (by decide) ?_
    refine go_icmp_le 21 dX11_type_15 (by decide) (fun c_15 => ?_) (fun c_15 => ?_)
    · refine go_aload_n dX11_type_21 rfl ?_
      refine go_iload_n dX11_type_22 rfl ?_
      refine go_callVsr (z := MX11_textOf) dX11_type_23 lX11_92 sX11_textOf (ev_textOf1 t0 t1 G N T C D P S H0 H1 H2 H3 ta lf) rfl rfl rfl ⟨_, _, rfl⟩ rfl rfl ?_
      refine go_astore_n dX11_type_26 (by decide) ?_
      refine go_aload_n dX11_type_27 rfl ?_
      refine go_callVi (z := MX10_isFull) [3, 4] dX11_type_28 lX11_96 sX10_isFull (ev_X10_isFull _ _ _) rfl rfl rfl rfl rfl ⟨_, _, rfl⟩ rfl rfl ?_
      refine go_if_eq 37 dX11_type_31 (by decide) (fun c_31 => ?_) (fun c_31 => ?_)
      · have hcap : t1.1 < 12 := Nat.lt_of_not_le fun q => by
          rw [if_neg (fun h => absurd (nI_le (a := 12) q (by omega)) (by simpa using h))] at c_31
          exact absurd c_31 (by decide)
        refine go_aload_n dX11_type_37 rfl ?_
        refine go_iload_n dX11_type_38 rfl ?_
        refine go_callVw (z := MX10_push) [3, 4] _ dX11_type_39 lX11_100 sX10_push (ev_X10_push 12 t1.1 hcap (by decide) b _) rfl rfl rfl rfl rfl ⟨_, _, rfl⟩ rfl rfl rfl rfl ?_
        refine go_aload_n dX11_type_42 rfl ?_
        refine go_iload_n dX11_type_43 rfl ?_
        refine go_callVs (z := MX11_readAnew) dX11_type_44 lX11_103 sX11_readAnew (ev_readAnew1 t0 (t1.1 + 1, upd t1.2 t1.1 b) G N T C D P S H0 H1 H2 H3 ta lf (by omega) hG) rfl rfl rfl ⟨_, _, rfl⟩ rfl rfl (fun v w1 h => by obtain ⟨-, N2, C2, rfl, -⟩ := h; rfl) (fun v_44 w_44 h_44 => ?_)
        obtain ⟨rfl, hch⟩ := h_44
        obtain ⟨N2, C2, rfl, hI1, hI2⟩ := hch
        refine go_aload_n dX11_type_47 rfl ?_
        refine go_getf fX11_106 dX11_type_48 rfl rfl ?_
        refine go_ireturn dX11_type_51 rfl rfl (Nat.le_of_ble_eq_true rfl) (Nat.le_of_ble_eq_true rfl) ?_
        exact Or.inr (Or.inr ⟨fun q => q.elim c_8 (fun q => absurd c_15 (by simpa using q)), hcap, rfl, _, C2, rfl, hI1, hI2⟩)
      · refine go_bipush (-4) dX11_type_34 (by decide) ?_
        refine go_ireturn dX11_type_36 rfl rfl (Nat.le_of_ble_eq_true rfl) (Nat.le_of_ble_eq_true rfl) ?_
        exact Or.inr (Or.inl ⟨fun q => q.elim c_8 (fun q => absurd c_15 (by simpa using q)), by
          by_cases q : t1.1 < 12
          · exact absurd (if_pos (nI_lt (a := t1.1) (b := 12) q (by decide))) c_31
          · omega, rfl, rfl⟩)
    · refine go_bipush (-2) dX11_type_18 (by decide) ?_
      refine go_ireturn dX11_type_20 rfl rfl (Nat.le_of_ble_eq_true rfl) (Nat.le_of_ble_eq_true rfl) ?_
      exact Or.inl ⟨by first | exact Or.inl c_8 | exact Or.inr (by simpa using c_15), rfl, rfl⟩
set_option maxRecDepth 100000 in
theorem ev_type2 (t0 t1 : TX) (G N : TG) (T : TT) (C D : TC) (P : TP) (S : TS) (H0 H1 H2 H3 : TH) (ta : Nat → Int32) (lf : Int32) (x b : Int32) (hx : ¬ (x = 0 ∨ x = 1)) : Ev MX11_type [.ref 0, .int x, .int b] (cwd t0 t1 G N T C D P S H0 H1 H2 H3 ta lf) (Ri (cwd t0 t1 G N T C D P S H0 H1 H2 H3 ta lf) (-2)) := by
  refine ev_of bX11_type [some (.ref 0), some (.int x), some (.int b), none] (Nat.le_of_ble_eq_true rfl) rfl ?_
  refine go_iload_n dX11_type_0 rfl ?_
  refine go_callSi (z := MX11_isText) [] dX11_type_1 lX11_88 sX11_isText (ev_X11_isText _) rfl rfl rfl rfl rfl rfl ?_
  refine go_if_eq 18 dX11_type_4 (by decide) (fun _ => ?_) (fun c_4 => absurd (if_neg hx) c_4)
  refine go_bipush (-2) dX11_type_18 (by decide) ?_
  refine go_ireturn dX11_type_20 rfl rfl (Nat.le_of_ble_eq_true rfl) (Nat.le_of_ble_eq_true rfl) ?_
  exact ⟨rfl, rfl⟩
set_option maxRecDepth 100000 in
theorem ev_wipe0 (t0 t1 : TX) (G N : TG) (T : TT) (C D : TC) (P : TP) (S : TS) (H0 H1 H2 H3 : TH) (ta : Nat → Int32) (lf : Int32) (h47 : t0.1 ≤ 47) (h12 : t1.1 ≤ 12) (hG : G.1 ≤ 8) (hN : NOK N) : Ev MX11_wipe [.ref 0, .int 0] (cwd t0 t1 G N T C D P S H0 H1 H2 H3 ta lf) (fun v w => v = some (.int (nI t0.1)) ∧ Chg0 (0, t0.2) t1 N T D P S H0 H1 H2 H3 ta lf w) := by
  refine ev_of bX11_wipe [some (.ref 0), some (.int 0), none, none] (Nat.le_of_ble_eq_true rfl) rfl ?_
  refine go_iload_n dX11_wipe_0 rfl ?_
  refine go_callSi (z := MX11_isText) [] dX11_wipe_1 lX11_88 sX11_isText (ev_X11_isText _) rfl rfl rfl rfl rfl rfl ?_
  refine go_if_ne 10 dX11_wipe_4 (by decide) (fun _ => ?_) (fun c_4 => absurd c_4 (by decide))
  refine go_aload_n dX11_wipe_10 rfl ?_
  refine go_iload_n dX11_wipe_11 rfl ?_
  refine go_callVsr (z := MX11_textOf) dX11_wipe_12 lX11_92 sX11_textOf (ev_textOf0 t0 t1 G N T C D P S H0 H1 H2 H3 ta lf) rfl rfl rfl ⟨_, _, rfl⟩ rfl rfl ?_
  refine go_astore_n dX11_wipe_15 (by decide) ?_
  refine go_aload_n dX11_wipe_16 rfl ?_
  refine go_getf fX11_106 dX11_wipe_17 rfl rfl ?_
  refine go_istore_n dX11_wipe_20 (by decide) ?_
  refine go_aload_n dX11_wipe_21 rfl ?_
  refine go_iconst (0) dX11_wipe_22 (by decide) ?_
  refine go_putf fX11_106 dX11_wipe_23 rfl (fun _ _ _ h => by cases h; rfl) (fun _ => rfl) (fun _ => rfl) (Nat.le_of_ble_eq_true rfl) ?_
  refine go_aload_n dX11_wipe_26 rfl ?_
  refine go_iload_n dX11_wipe_27 rfl ?_
  refine go_callVs (z := MX11_readAnew) dX11_wipe_28 lX11_103 sX11_readAnew (ev_readAnew0 (0, t0.2) t1 G N T C D P S H0 H1 H2 H3 ta lf (by omega) hN) rfl rfl rfl ⟨_, _, rfl⟩ rfl rfl (fun v w1 h => by obtain ⟨-, G2, C2, rfl, -⟩ := h; rfl) (fun v_28 w_28 h_28 => ?_)
  obtain ⟨rfl, hch⟩ := h_28
  refine go_iload_n dX11_wipe_31 rfl ?_
  refine go_ireturn dX11_wipe_32 rfl rfl (Nat.le_of_ble_eq_true rfl) (Nat.le_of_ble_eq_true rfl) ?_
  exact ⟨rfl, hch⟩
set_option maxRecDepth 100000 in
theorem ev_wipe1 (t0 t1 : TX) (G N : TG) (T : TT) (C D : TC) (P : TP) (S : TS) (H0 H1 H2 H3 : TH) (ta : Nat → Int32) (lf : Int32) (h47 : t0.1 ≤ 47) (h12 : t1.1 ≤ 12) (hG : G.1 ≤ 8) (hN : NOK N) : Ev MX11_wipe [.ref 0, .int 1] (cwd t0 t1 G N T C D P S H0 H1 H2 H3 ta lf) (fun v w => v = some (.int (nI t1.1)) ∧ Chg1 t0 (0, t1.2) G T D P S H0 H1 H2 H3 ta lf w) := by
  refine ev_of bX11_wipe [some (.ref 0), some (.int 1), none, none] (Nat.le_of_ble_eq_true rfl) rfl ?_
  refine go_iload_n dX11_wipe_0 rfl ?_
  refine go_callSi (z := MX11_isText) [] dX11_wipe_1 lX11_88 sX11_isText (ev_X11_isText _) rfl rfl rfl rfl rfl rfl ?_
  refine go_if_ne 10 dX11_wipe_4 (by decide) (fun _ => ?_) (fun c_4 => absurd c_4 (by decide))
  refine go_aload_n dX11_wipe_10 rfl ?_
  refine go_iload_n dX11_wipe_11 rfl ?_
  refine go_callVsr (z := MX11_textOf) dX11_wipe_12 lX11_92 sX11_textOf (ev_textOf1 t0 t1 G N T C D P S H0 H1 H2 H3 ta lf) rfl rfl rfl ⟨_, _, rfl⟩ rfl rfl ?_
  refine go_astore_n dX11_wipe_15 (by decide) ?_
  refine go_aload_n dX11_wipe_16 rfl ?_
  refine go_getf fX11_106 dX11_wipe_17 rfl rfl ?_
  refine go_istore_n dX11_wipe_20 (by decide) ?_
  refine go_aload_n dX11_wipe_21 rfl ?_
  refine go_iconst (0) dX11_wipe_22 (by decide) ?_
  refine go_putf fX11_106 dX11_wipe_23 rfl (fun _ _ _ h => by cases h; rfl) (fun _ => rfl) (fun _ => rfl) (Nat.le_of_ble_eq_true rfl) ?_
  refine go_aload_n dX11_wipe_26 rfl ?_
  refine go_iload_n dX11_wipe_27 rfl ?_
  refine go_callVs (z := MX11_readAnew) dX11_wipe_28 lX11_103 sX11_readAnew (ev_readAnew1 t0 (0, t1.2) G N T C D P S H0 H1 H2 H3 ta lf (by omega) hG) rfl rfl rfl ⟨_, _, rfl⟩ rfl rfl (fun v w1 h => by obtain ⟨-, N2, C2, rfl, -⟩ := h; rfl) (fun v_28 w_28 h_28 => ?_)
  obtain ⟨rfl, hch⟩ := h_28
  refine go_iload_n dX11_wipe_31 rfl ?_
  refine go_ireturn dX11_wipe_32 rfl rfl (Nat.le_of_ble_eq_true rfl) (Nat.le_of_ble_eq_true rfl) ?_
  exact ⟨rfl, hch⟩
set_option maxRecDepth 100000 in
theorem ev_wipe2 (t0 t1 : TX) (G N : TG) (T : TT) (C D : TC) (P : TP) (S : TS) (H0 H1 H2 H3 : TH) (ta : Nat → Int32) (lf : Int32) (x : Int32) (hx : ¬ (x = 0 ∨ x = 1)) : Ev MX11_wipe [.ref 0, .int x] (cwd t0 t1 G N T C D P S H0 H1 H2 H3 ta lf) (Ri (cwd t0 t1 G N T C D P S H0 H1 H2 H3 ta lf) (-2)) := by
  refine ev_of bX11_wipe [some (.ref 0), some (.int x), none, none] (Nat.le_of_ble_eq_true rfl) rfl ?_
  refine go_iload_n dX11_wipe_0 rfl ?_
  refine go_callSi (z := MX11_isText) [] dX11_wipe_1 lX11_88 sX11_isText (ev_X11_isText _) rfl rfl rfl rfl rfl rfl ?_
  refine go_if_ne 10 dX11_wipe_4 (by decide) (fun c_4 => absurd (if_neg hx) c_4) (fun _ => ?_)
  refine go_bipush (-2) dX11_wipe_7 (by decide) ?_
  refine go_ireturn dX11_wipe_9 rfl rfl (Nat.le_of_ble_eq_true rfl) (Nat.le_of_ble_eq_true rfl) ?_
  exact ⟨rfl, rfl⟩
set_option maxRecDepth 100000 in
theorem ev_undo0 (t0 t1 : TX) (G N : TG) (T : TT) (C D : TC) (P : TP) (S : TS) (H0 H1 H2 H3 : TH) (ta : Nat → Int32) (lf : Int32) (h47 : t0.1 ≤ 47) (h12 : t1.1 ≤ 12) (hG : G.1 ≤ 8) (hN : NOK N) : Ev MX11_undo [.ref 0, .int 0] (cwd t0 t1 G N T C D P S H0 H1 H2 H3 ta lf) (fun v w => t0.1 = 0 ∧ v = some (.int (-3)) ∧ w = (cwd t0 t1 G N T C D P S H0 H1 H2 H3 ta lf) ∨ 0 < t0.1 ∧ v = some (.int (nI (t0.1 - 1))) ∧ Chg0 (t0.1 - 1, t0.2) t1 N T D P S H0 H1 H2 H3 ta lf w) := by
  refine ev_of bX11_undo [some (.ref 0), some (.int 0), none] (Nat.le_of_ble_eq_true rfl) rfl ?_
  refine go_iload_n dX11_undo_0 rfl ?_
  refine go_callSi (z := MX11_isText) [] dX11_undo_1 lX11_88 sX11_isText (ev_X11_isText _) rfl rfl rfl rfl rfl rfl ?_
  refine go_if_ne 10 dX11_undo_4 (by decide) (fun _ => ?_) (fun c_4 => absurd c_4 (by decide))
  refine go_aload_n dX11_undo_10 rfl ?_
  refine go_iload_n dX11_undo_11 rfl ?_
  refine go_callVsr (z := MX11_textOf) dX11_undo_12 lX11_92 sX11_textOf (ev_textOf0 t0 t1 G N T C D P S H0 H1 H2 H3 ta lf) rfl rfl rfl ⟨_, _, rfl⟩ rfl rfl ?_
  refine go_astore_n dX11_undo_15 (by decide) ?_
  refine go_aload_n dX11_undo_16 rfl ?_
  refine go_getf fX11_106 dX11_undo_17 rfl rfl ?_
  refine go_if_ne 26 dX11_undo_20 (by decide) (fun c_20 => ?_) (fun c_20 => ?_)
  · have h0 : 0 < t0.1 := Nat.pos_of_ne_zero fun q => c_20 (by rw [q]; rfl)
    refine go_aload_n dX11_undo_26 rfl ?_
    refine go_dup dX11_undo_27 rfl ?_
    refine go_getf fX11_106 dX11_undo_28 rfl rfl ?_
    refine go_iconst (1) dX11_undo_31 (by decide) ?_
    refine go_isub dX11_undo_32 ?_
    rw [show nI t0.1 - 1 = nI (t0.1 - 1) from pk_sub (b := 1) h0]
    refine go_putf fX11_106 dX11_undo_33 rfl (fun _ _ _ h => by cases h; rfl) (fun _ => rfl) (fun _ => rfl) (Nat.le_of_ble_eq_true rfl) ?_
    refine go_aload_n dX11_undo_36 rfl ?_
    refine go_iload_n dX11_undo_37 rfl ?_
    refine go_callVs (z := MX11_readAnew) dX11_undo_38 lX11_103 sX11_readAnew (ev_readAnew0 (t0.1 - 1, t0.2) t1 G N T C D P S H0 H1 H2 H3 ta lf (by omega) hN) rfl rfl rfl ⟨_, _, rfl⟩ rfl rfl (fun v w1 h => by obtain ⟨-, G2, C2, rfl, -⟩ := h; rfl) (fun v_38 w_38 h_38 => ?_)
    obtain ⟨rfl, hch⟩ := h_38
    obtain ⟨G2, C2, rfl, hI1, hI2⟩ := hch
    refine go_aload_n dX11_undo_41 rfl ?_
    refine go_getf fX11_106 dX11_undo_42 rfl rfl ?_
    refine go_ireturn dX11_undo_45 rfl rfl (Nat.le_of_ble_eq_true rfl) (Nat.le_of_ble_eq_true rfl) ?_
    exact Or.inr ⟨h0, rfl, _, C2, rfl, hI1, hI2⟩
  · refine go_bipush (-3) dX11_undo_23 (by decide) ?_
    refine go_ireturn dX11_undo_25 rfl rfl (Nat.le_of_ble_eq_true rfl) (Nat.le_of_ble_eq_true rfl) ?_
    exact Or.inl ⟨by
      by_cases q : t0.1 = 0
      · exact q
      · exact absurd c_20 (nI_ne0 (by omega) (by omega)), rfl, rfl⟩
set_option maxRecDepth 100000 in
theorem ev_undo1 (t0 t1 : TX) (G N : TG) (T : TT) (C D : TC) (P : TP) (S : TS) (H0 H1 H2 H3 : TH) (ta : Nat → Int32) (lf : Int32) (h47 : t0.1 ≤ 47) (h12 : t1.1 ≤ 12) (hG : G.1 ≤ 8) (hN : NOK N) : Ev MX11_undo [.ref 0, .int 1] (cwd t0 t1 G N T C D P S H0 H1 H2 H3 ta lf) (fun v w => t1.1 = 0 ∧ v = some (.int (-3)) ∧ w = (cwd t0 t1 G N T C D P S H0 H1 H2 H3 ta lf) ∨ 0 < t1.1 ∧ v = some (.int (nI (t1.1 - 1))) ∧ Chg1 t0 (t1.1 - 1, t1.2) G T D P S H0 H1 H2 H3 ta lf w) := by
  refine ev_of bX11_undo [some (.ref 0), some (.int 1), none] (Nat.le_of_ble_eq_true rfl) rfl ?_
  refine go_iload_n dX11_undo_0 rfl ?_
  refine go_callSi (z := MX11_isText) [] dX11_undo_1 lX11_88 sX11_isText (ev_X11_isText _) rfl rfl rfl rfl rfl rfl ?_
  refine go_if_ne 10 dX11_undo_4 (by decide) (fun _ => ?_) (fun c_4 => absurd c_4 (by decide))
  refine go_aload_n dX11_undo_10 rfl ?_
  refine go_iload_n dX11_undo_11 rfl ?_
  refine go_callVsr (z := MX11_textOf) dX11_undo_12 lX11_92 sX11_textOf (ev_textOf1 t0 t1 G N T C D P S H0 H1 H2 H3 ta lf) rfl rfl rfl ⟨_, _, rfl⟩ rfl rfl ?_
  refine go_astore_n dX11_undo_15 (by decide) ?_
  refine go_aload_n dX11_undo_16 rfl ?_
  refine go_getf fX11_106 dX11_undo_17 rfl rfl ?_
  refine go_if_ne 26 dX11_undo_20 (by decide) (fun c_20 => ?_) (fun c_20 => ?_)
  · have h0 : 0 < t1.1 := Nat.pos_of_ne_zero fun q => c_20 (by rw [q]; rfl)
    refine go_aload_n dX11_undo_26 rfl ?_
    refine go_dup dX11_undo_27 rfl ?_
    refine go_getf fX11_106 dX11_undo_28 rfl rfl ?_
    refine go_iconst (1) dX11_undo_31 (by decide) ?_
    refine go_isub dX11_undo_32 ?_
    rw [show nI t1.1 - 1 = nI (t1.1 - 1) from pk_sub (b := 1) h0]
    refine go_putf fX11_106 dX11_undo_33 rfl (fun _ _ _ h => by cases h; rfl) (fun _ => rfl) (fun _ => rfl) (Nat.le_of_ble_eq_true rfl) ?_
    refine go_aload_n dX11_undo_36 rfl ?_
    refine go_iload_n dX11_undo_37 rfl ?_
    refine go_callVs (z := MX11_readAnew) dX11_undo_38 lX11_103 sX11_readAnew (ev_readAnew1 t0 (t1.1 - 1, t1.2) G N T C D P S H0 H1 H2 H3 ta lf (by omega) hG) rfl rfl rfl ⟨_, _, rfl⟩ rfl rfl (fun v w1 h => by obtain ⟨-, N2, C2, rfl, -⟩ := h; rfl) (fun v_38 w_38 h_38 => ?_)
    obtain ⟨rfl, hch⟩ := h_38
    obtain ⟨N2, C2, rfl, hI1, hI2⟩ := hch
    refine go_aload_n dX11_undo_41 rfl ?_
    refine go_getf fX11_106 dX11_undo_42 rfl rfl ?_
    refine go_ireturn dX11_undo_45 rfl rfl (Nat.le_of_ble_eq_true rfl) (Nat.le_of_ble_eq_true rfl) ?_
    exact Or.inr ⟨h0, rfl, _, C2, rfl, hI1, hI2⟩
  · refine go_bipush (-3) dX11_undo_23 (by decide) ?_
    refine go_ireturn dX11_undo_25 rfl rfl (Nat.le_of_ble_eq_true rfl) (Nat.le_of_ble_eq_true rfl) ?_
    exact Or.inl ⟨by
      by_cases q : t1.1 = 0
      · exact q
      · exact absurd c_20 (nI_ne0 (by omega) (by omega)), rfl, rfl⟩
set_option maxRecDepth 100000 in
theorem ev_undo2 (t0 t1 : TX) (G N : TG) (T : TT) (C D : TC) (P : TP) (S : TS) (H0 H1 H2 H3 : TH) (ta : Nat → Int32) (lf : Int32) (x : Int32) (hx : ¬ (x = 0 ∨ x = 1)) : Ev MX11_undo [.ref 0, .int x] (cwd t0 t1 G N T C D P S H0 H1 H2 H3 ta lf) (Ri (cwd t0 t1 G N T C D P S H0 H1 H2 H3 ta lf) (-2)) := by
  refine ev_of bX11_undo [some (.ref 0), some (.int x), none] (Nat.le_of_ble_eq_true rfl) rfl ?_
  refine go_iload_n dX11_undo_0 rfl ?_
  refine go_callSi (z := MX11_isText) [] dX11_undo_1 lX11_88 sX11_isText (ev_X11_isText _) rfl rfl rfl rfl rfl rfl ?_
  refine go_if_ne 10 dX11_undo_4 (by decide) (fun c_4 => absurd (if_neg hx) c_4) (fun _ => ?_)
  refine go_bipush (-2) dX11_undo_7 (by decide) ?_
  refine go_ireturn dX11_undo_9 rfl rfl (Nat.le_of_ble_eq_true rfl) (Nat.le_of_ble_eq_true rfl) ?_
  exact ⟨rfl, rfl⟩
def setT (T : TT) (x v : Int32) : TT := if x = 0 then (v.toNatClampNeg, T.2.1, T.2.2) else if x = 1 then (T.1, v.toNatClampNeg, T.2.2) else (T.1, T.2.1, v.toNatClampNeg)
def getT (T : TT) (x : Int32) : Nat := if x = 0 then T.1 else if x = 1 then T.2.1 else T.2.2
def setB (x v : Int32) : Prop := x < 0 ∨ 2 < x ∨ (if x = 1 then v < 1 ∨ 8 < v else v < 0 ∨ 9 < v)
theorem setT_w (T : TT) {x v : Int32} (hv : v = nI v.toNatClampNeg) : (zO 7 (if x = 0 then [.int v, .int (nI T.2.1), .int (nI T.2.2)] else if x = 1 then [.int (nI T.1), .int v, .int (nI T.2.2)] else [.int (nI T.1), .int (nI T.2.1), .int v]) : AE) = zO 7 [.int (nI (setT T x v).1), .int (nI (setT T x v).2.1), .int (nI (setT T x v).2.2)] := by
  unfold setT
  by_cases h0 : x = 0
  · rw [if_pos h0, if_pos h0, ← hv]
  · rw [if_neg h0, if_neg h0]
    by_cases h1 : x = 1
    · rw [if_pos h1, if_pos h1, ← hv]
    · rw [if_neg h1, if_neg h1, ← hv]
theorem ev_changeT (T : TT) {x v : Int32} (hv : v = nI v.toNatClampNeg) : Ev MX9_change [.ref 0, .int x, .int v] [zO 7 [.int (nI T.1), .int (nI T.2.1), .int (nI T.2.2)]] (Rw (some (.int (nI (getT T x)))) [zO 7 [.int (nI (setT T x v).1), .int (nI (setT T x v).2.1), .int (nI (setT T x v).2.2)]]) := by
  have h := ev_X9_change (nI T.1) (nI T.2.1) (nI T.2.2) x v
  rw [setT_w T hv] at h
  have e : (if x = 0 then nI T.1 else if x = 1 then nI T.2.1 else nI T.2.2) = nI (getT T x) := by
    unfold getT
    split
    · rfl
    · split <;> rfl
  rw [e] at h
  exact h
theorem allow_t {x v : Int32} (h : ¬ (if x = 1 then (if v < 1 ∨ 8 < v then (0 : Int32) else 1) else (if v < 0 ∨ 9 < v then 0 else 1)) = 0) : ¬ (if x = 1 then v < 1 ∨ 8 < v else v < 0 ∨ 9 < v) := by
  by_cases h1 : x = 1
  · rw [if_pos h1] at h ⊢
    exact full_t3 h
  · rw [if_neg h1] at h ⊢
    exact full_t3 h
theorem allow_f {x v : Int32} (h : (if x = 1 then (if v < 1 ∨ 8 < v then (0 : Int32) else 1) else (if v < 0 ∨ 9 < v then 0 else 1)) = 0) : (if x = 1 then v < 1 ∨ 8 < v else v < 0 ∨ 9 < v) := by
  by_cases h1 : x = 1
  · rw [if_pos h1] at h ⊢
    exact full_t2 h
  · rw [if_neg h1] at h ⊢
    exact full_t2 h
theorem allow_v {x v : Int32} (h : ¬ (if x = 1 then v < 1 ∨ 8 < v else v < 0 ∨ 9 < v)) : v = nI v.toNatClampNeg ∧ v.toNatClampNeg ≤ 9 ∧ (x = 1 → 1 ≤ v.toNatClampNeg ∧ v.toNatClampNeg ≤ 8) := by
  have h0 : (0 : Int32).toInt = 0 := by decide
  have h1 : (1 : Int32).toInt = 1 := by decide
  have h8 : (8 : Int32).toInt = 8 := by decide
  have h9 : (9 : Int32).toInt = 9 := by decide
  by_cases hx : x = 1
  · rw [if_pos hx] at h
    have a1 : ¬ v < 1 := fun q => h (Or.inl q)
    have a2 : ¬ 8 < v := fun q => h (Or.inr q)
    rw [Int32.lt_iff_toInt_lt] at a1 a2
    obtain ⟨k, hk, rfl⟩ := nI_of2 (M := 8) (n := 8) (x := v) (by decide) (by rw [Int32.lt_iff_toInt_lt]; omega) (by rw [Int32.le_iff_toInt_le]; omega)
    rw [nI_toInt (by omega)] at a1 a2
    rw [nI_clamp (by omega)]
    exact ⟨rfl, by omega, fun _ => ⟨by omega, by omega⟩⟩
  · rw [if_neg hx] at h
    have a1 : ¬ v < 0 := fun q => h (Or.inl q)
    have a2 : ¬ 9 < v := fun q => h (Or.inr q)
    rw [Int32.lt_iff_toInt_lt] at a2
    obtain ⟨k, hk, rfl⟩ := nI_of2 (M := 9) (n := 9) (x := v) (by decide) a1 (by rw [Int32.le_iff_toInt_le]; omega)
    rw [nI_clamp (by omega)]
    exact ⟨rfl, by omega, fun q => absurd q hx⟩
set_option maxRecDepth 100000 in
theorem ev_X11_set (t0 t1 : TX) (G N : TG) (T : TT) (C D : TC) (P : TP) (S : TS) (H0 H1 H2 H3 : TH) (ta : Nat → Int32) (lf : Int32) (hG : G.1 ≤ 8) (hN : NOK N) (x v : Int32) : Ev MX11_set [.ref 0, .int x, .int v] (cwd t0 t1 G N T C D P S H0 H1 H2 H3 ta lf) (fun u w => setB x v ∧ u = some (.int (-2)) ∧ w = (cwd t0 t1 G N T C D P S H0 H1 H2 H3 ta lf) ∨ ¬ setB x v ∧ u = some (.int (nI (getT T x))) ∧ ∃ C2 : TC, w = (cwd t0 t1 G N (setT T x v) C2 D (pmk P 0) S H0 H1 H2 H3 ta lf) ∧ CrsT G.1 G.2.2 (nmR N.2.2) (nI (setT T x v).1) (nI (setT T x v).2.1) (nI (setT T x v).2.2) N.1 C2) := by
  refine ev_of bX11_set [some (.ref 0), some (.int x), some (.int v), none] (Nat.le_of_ble_eq_true rfl) rfl ?_
  refine go_iload_n dX11_set_0 rfl ?_
  refine go_if_lt 17 dX11_set_1 (by decide) (fun c_1 => ?_) (fun c_1 => ?_)
  · refine go_bipush (-2) dX11_set_17 (by decide) ?_
    refine go_ireturn dX11_set_19 rfl rfl (Nat.le_of_ble_eq_true rfl) (Nat.le_of_ble_eq_true rfl) ?_
    exact Or.inl ⟨by first | exact Or.inl c_1 | exact Or.inr (Or.inl c_6) | exact Or.inr (Or.inr (allow_f c_14)), rfl, rfl⟩
  · refine go_iload_n dX11_set_4 rfl ?_
    refine go_iconst (2) dX11_set_5 (by decide) ?_
    refine go_icmp_gt 17 dX11_set_6 (by decide) (fun c_6 => ?_) (fun c_6 => ?_)
    · refine go_bipush (-2) dX11_set_17 (by decide) ?_
      refine go_ireturn dX11_set_19 rfl rfl (Nat.le_of_ble_eq_true rfl) (Nat.le_of_ble_eq_true rfl) ?_
      exact Or.inl ⟨by first | exact Or.inl c_1 | exact Or.inr (Or.inl c_6) | exact Or.inr (Or.inr (allow_f c_14)), rfl, rfl⟩
    · refine go_iload_n dX11_set_9 rfl ?_
      refine go_iload_n dX11_set_10 rfl ?_
      refine go_callSi (z := MX9_allows) [] dX11_set_11 lX11_124 sX9_allows (ev_X9_allows x v) rfl rfl rfl rfl rfl rfl ?_
      refine go_if_ne 20 dX11_set_14 (by decide) (fun c_14 => ?_) (fun c_14 => ?_)
      · have hal := allow_t c_14
        have hv := allow_v hal
        refine go_aload_n dX11_set_20 rfl ?_
        refine go_getf fX11_38 dX11_set_21 rfl rfl ?_
        refine go_iload_n dX11_set_24 rfl ?_
        refine go_iload_n dX11_set_25 rfl ?_
        refine go_callVw (z := MX9_change) [9] _ dX11_set_26 lX11_128 sX9_change (ev_changeT T hv.1) rfl rfl rfl rfl rfl ⟨_, _, rfl⟩ rfl rfl rfl rfl ?_
        refine go_istore_n dX11_set_29 (by decide) ?_
        refine go_aload_n dX11_set_30 rfl ?_
        refine go_callVs (z := MX11_reckonAnew) dX11_set_31 lX11_131 sX11_reckonAnew (ev_X11_reckonAnew t0 t1 G N (setT T x v) C D P S H0 H1 H2 H3 ta lf hG hN) rfl rfl rfl ⟨_, _, rfl⟩ rfl rfl (fun v w1 h => by obtain ⟨-, C2, rfl, -⟩ := h; rfl) (fun v_31 w_31 h_31 => ?_)
        obtain ⟨rfl, C2, rfl, hC2⟩ := h_31
        refine go_iload_n dX11_set_34 rfl ?_
        refine go_ireturn dX11_set_35 rfl rfl (Nat.le_of_ble_eq_true rfl) (Nat.le_of_ble_eq_true rfl) ?_
        exact Or.inr ⟨fun q => q.elim c_1 (fun q => q.elim c_6 hal), rfl, C2, rfl, hC2⟩
      · refine go_bipush (-2) dX11_set_17 (by decide) ?_
        refine go_ireturn dX11_set_19 rfl rfl (Nat.le_of_ble_eq_true rfl) (Nat.le_of_ble_eq_true rfl) ?_
        exact Or.inl ⟨by first | exact Or.inl c_1 | exact Or.inr (Or.inl c_6) | exact Or.inr (Or.inr (allow_f c_14)), rfl, rfl⟩
/-- a plan that is kept is ORDER -/
def PInv (G : TG) (T : TT) (P : TP) : Prop := P.2.2.2.2.2.2.1 = 0 ∨ P.2.2.2.2.2.2.1 = 1 ∧ ∃ ln v0 : Nat, P.2.2.2.2.1 = nI ln ∧ P.2.2.2.2.2.1 = lN v0 ∧ PlanOK G.1 G.2.2 T.1 T.2.1 (nI T.2.2) ln P.2.2.2.2.2.2.2.2.2.2 v0 ∧ v0 ≤ 2 ^ 32 ∧ ln ≤ 8
theorem ev_makeOnce (G : TG) (T : TT) (P : TP) (hG : G.1 ≤ 8) (hG2 : GOK G.1 G.2.2) (hT : T.1 ≤ 9 ∧ T.2.1 ≤ 8) (hP : PInv G T P) : Ev MX5_makeOnce [.ref 0, .ref 5, .ref 7] [zO 4 [.ref 1, .ref 2, .ref 3, .ref 4, .int P.1, .int P.2.1, .int P.2.2.1, .int P.2.2.2.1, .int P.2.2.2.2.1, .long P.2.2.2.2.2.1, .int P.2.2.2.2.2.2.1], zL 2560 P.2.2.2.2.2.2.2.1, zI 80 P.2.2.2.2.2.2.2.2.1, zI 80 P.2.2.2.2.2.2.2.2.2.1, zI 8 P.2.2.2.2.2.2.2.2.2.2, zO 1 [.ref 6, .int (nI G.1), .int G.2.1], zI 40 G.2.2, zO 7 [.int (nI T.1), .int (nI T.2.1), .int (nI T.2.2)]] (fun v w => v = none ∧ ∃ (P2 : TP) (ln v0 : Nat), w = [zO 4 [.ref 1, .ref 2, .ref 3, .ref 4, .int P2.1, .int P2.2.1, .int P2.2.2.1, .int P2.2.2.2.1, .int P2.2.2.2.2.1, .long P2.2.2.2.2.2.1, .int P2.2.2.2.2.2.2.1], zL 2560 P2.2.2.2.2.2.2.2.1, zI 80 P2.2.2.2.2.2.2.2.2.1, zI 80 P2.2.2.2.2.2.2.2.2.2.1, zI 8 P2.2.2.2.2.2.2.2.2.2.2, zO 1 [.ref 6, .int (nI G.1), .int G.2.1], zI 40 G.2.2, zO 7 [.int (nI T.1), .int (nI T.2.1), .int (nI T.2.2)]] ∧ P2.2.2.2.2.2.2.1 = 1 ∧ P2.2.2.2.2.1 = nI ln ∧ P2.2.2.2.2.2.1 = lN v0 ∧ PlanOK G.1 G.2.2 T.1 T.2.1 (nI T.2.2) ln P2.2.2.2.2.2.2.2.2.2.2 v0 ∧ v0 ≤ 2 ^ 32 ∧ ln ≤ 8) := by
  rcases hP with hP | ⟨h1, hP⟩
  · obtain ⟨a1, a2, a3, a4, a5, a6, a7, a8, a9, a10, a11⟩ := P
    dsimp only at hP
    subst hP
    refine (ev_X5_makeOnce a1 a2 a3 a4 a5 a6 a8 a9 a10 a11 G.1 T.1 T.2.1 hG hT.1 hT.2 G.2.1 (nI T.2.2) G.2.2 hG2).mono ?_
    rintro v w1 ⟨rfl, val, fac, stb, rw2, ln, v0, rfl, hO, hv, hl⟩
    exact ⟨rfl, (nI G.1, nI (lvN G.2.2 (nI T.2.2) G.1), nI T.1, nI T.2.1, nI ln, lN v0, 1, val, fac, stb, rw2), ln, v0, rfl, rfl, rfl, rfl, hO, hv, hl⟩
  · obtain ⟨ln, v0, hP⟩ := hP
    refine ev_of bX5_makeOnce [some (.ref 0), some (.ref 5), some (.ref 7), none] (Nat.le_of_ble_eq_true rfl) rfl ?_
    refine go_aload_n dX5_makeOnce_0 rfl ?_
    refine go_getf fX5_25 dX5_makeOnce_1 rfl rfl ?_
    refine go_if_eq 8 dX5_makeOnce_4 (by decide) (fun c_4 => absurd c_4 (by rw [h1]; decide)) (fun _ => ?_)
    refine go_return dX5_makeOnce_7 rfl (Nat.le_of_ble_eq_true rfl) (Nat.le_of_ble_eq_true rfl) ?_
    exact ⟨rfl, P, ln, v0, rfl, h1, hP⟩
/-- what ORDER answers -/
def ordI (x : Int32) (ln : Nat) (row : Nat → Int32) : Int32 := if ln = 0 then -1 else if x = -1 then nI ln else if nI ln ≤ x then -1 else row x.toNatClampNeg
set_option maxRecDepth 100000 in
theorem ev_X11_order (t0 t1 : TX) (G N : TG) (T : TT) (C D : TC) (P : TP) (S : TS) (H0 H1 H2 H3 : TH) (ta : Nat → Int32) (lf : Int32) (hG : G.1 ≤ 8) (hG2 : GOK G.1 G.2.2) (hT : T.1 ≤ 9 ∧ T.2.1 ≤ 8) (hP : PInv G T P) (x : Int32) : Ev MX11_order [.ref 0, .int x] (cwd t0 t1 G N T C D P S H0 H1 H2 H3 ta lf) (fun v w => (x < -1 ∨ ¬ x < 8) ∧ v = some (.int (-2)) ∧ w = (cwd t0 t1 G N T C D P S H0 H1 H2 H3 ta lf) ∨ ¬ (x < -1 ∨ ¬ x < 8) ∧ ∃ (P2 : TP) (ln v0 : Nat), w = (cwd t0 t1 G N T C D P2 S H0 H1 H2 H3 ta lf) ∧ P2.2.2.2.2.2.2.1 = 1 ∧ P2.2.2.2.2.1 = nI ln ∧ P2.2.2.2.2.2.1 = lN v0 ∧ PlanOK G.1 G.2.2 T.1 T.2.1 (nI T.2.2) ln P2.2.2.2.2.2.2.2.2.2.2 v0 ∧ v0 ≤ 2 ^ 32 ∧ ln ≤ 8 ∧ v = some (.int (ordI x ln P2.2.2.2.2.2.2.2.2.2.2))) := by
  refine ev_of bX11_order [some (.ref 0), some (.int x)] (Nat.le_of_ble_eq_true rfl) rfl ?_
  refine go_iload_n dX11_order_0 rfl ?_
  refine go_iconst (-1) dX11_order_1 (by decide) ?_
  refine go_icmp_lt 11 dX11_order_2 (by decide) (fun c_2 => ?_) (fun c_2 => ?_)
  · refine go_bipush (-2) dX11_order_11 (by decide) ?_
    refine go_ireturn dX11_order_13 rfl rfl (Nat.le_of_ble_eq_true rfl) (Nat.le_of_ble_eq_true rfl) ?_
    exact Or.inl ⟨by first | exact Or.inl c_2 | exact Or.inr c_8, rfl, rfl⟩
  · refine go_iload_n dX11_order_5 rfl ?_
    refine go_bipush (8) dX11_order_6 (by decide) ?_
    refine go_icmp_lt 14 dX11_order_8 (by decide) (fun c_8 => ?_) (fun c_8 => ?_)
    · refine go_aload_n dX11_order_14 rfl ?_
      refine go_getf fX11_55 dX11_order_15 rfl rfl ?_
      refine go_aload_n dX11_order_18 rfl ?_
      refine go_getf fX11_24 dX11_order_19 rfl rfl ?_
      refine go_aload_n dX11_order_22 rfl ?_
      refine go_getf fX11_38 dX11_order_23 rfl rfl ?_
      refine go_callV (z := MX5_makeOnce) [26, 27, 28, 29, 30, 5, 6, 9] dX11_order_26 lX11_184 sX5_makeOnce (ev_makeOnce G T P hG hG2 hT hP) rfl rfl rfl rfl rfl ⟨_, _, rfl⟩ (fit_of rfl) (res_of rfl) (fun v w1 h => by obtain ⟨-, P2, ln, v0, rfl, -⟩ := h; rfl) (fun v_26 w_26 h_26 => ?_)
      obtain ⟨rfl, P2, ln, v0, rfl, hp1, hp2, hp3, hp4, hp5, hp6⟩ := h_26
      obtain ⟨p1, p2, p3, p4, p5, p6, p7, p8, p9, p10, p11⟩ := P2
      dsimp only at hp1 hp2 hp3 hp4
      subst hp1
      subst hp2
      subst hp3
      have hb : ¬ (x < -1 ∨ ¬ x < 8) := fun q => q.elim c_2 (fun q => q c_8)
      refine go_aload_n dX11_order_29 rfl ?_
      refine go_getf fX11_55 dX11_order_30 rfl rfl ?_
      refine go_getf fX11_188 dX11_order_33 rfl rfl ?_
      refine go_if_ne 41 dX11_order_36 (by decide) (fun c_36 => ?_) (fun c_36 => ?_)
      · refine go_iload_n dX11_order_41 rfl ?_
        refine go_iconst (-1) dX11_order_42 (by decide) ?_
        refine go_icmp_ne 54 dX11_order_43 (by decide) (fun c_43 => ?_) (fun c_43 => ?_)
        · refine go_iload_n dX11_order_54 rfl ?_
          refine go_aload_n dX11_order_55 rfl ?_
          refine go_getf fX11_55 dX11_order_56 rfl rfl ?_
          refine go_getf fX11_188 dX11_order_59 rfl rfl ?_
          refine go_icmp_ge 77 dX11_order_62 (by decide) (fun c_62 => ?_) (fun c_62 => ?_)
          · refine go_iconst (-1) dX11_order_77 (by decide) ?_
            refine go_ireturn dX11_order_78 rfl rfl (Nat.le_of_ble_eq_true rfl) (Nat.le_of_ble_eq_true rfl) ?_
            exact Or.inr ⟨hb, (p1, p2, p3, p4, nI ln, lN v0, 1, p8, p9, p10, p11), ln, v0, rfl, rfl, rfl, rfl, hp4, hp5, hp6, by first | rw [ordI, if_neg (nI_nz c_36), if_neg c_43, if_pos c_62] | rw [ordI, if_neg (nI_nz c_36), if_neg c_43, if_neg c_62]⟩
          · refine go_aload_n dX11_order_65 rfl ?_
            refine go_getf fX11_55 dX11_order_66 rfl rfl ?_
            refine go_getf fX11_191 dX11_order_69 rfl rfl ?_
            refine go_iload_n dX11_order_72 rfl ?_
            refine go_iald dX11_order_73 rfl (ord_in c_2 c_43 c_62 hp6) ?_
            refine go_goto 78 dX11_order_74 (by decide) ?_
            refine go_ireturn dX11_order_78 rfl rfl (Nat.le_of_ble_eq_true rfl) (Nat.le_of_ble_eq_true rfl) ?_
            exact Or.inr ⟨hb, (p1, p2, p3, p4, nI ln, lN v0, 1, p8, p9, p10, p11), ln, v0, rfl, rfl, rfl, rfl, hp4, hp5, hp6, by first | rw [ordI, if_neg (nI_nz c_36), if_neg c_43, if_pos c_62] | rw [ordI, if_neg (nI_nz c_36), if_neg c_43, if_neg c_62]⟩
        · refine go_aload_n dX11_order_46 rfl ?_
          refine go_getf fX11_55 dX11_order_47 rfl rfl ?_
          refine go_getf fX11_188 dX11_order_50 rfl rfl ?_
          refine go_ireturn dX11_order_53 rfl rfl (Nat.le_of_ble_eq_true rfl) (Nat.le_of_ble_eq_true rfl) ?_
          exact Or.inr ⟨hb, (p1, p2, p3, p4, nI ln, lN v0, 1, p8, p9, p10, p11), ln, v0, rfl, rfl, rfl, rfl, hp4, hp5, hp6, by rw [ordI, if_neg (nI_nz c_36), if_pos c_43]⟩
      · refine go_iconst (-1) dX11_order_39 (by decide) ?_
        refine go_ireturn dX11_order_40 rfl rfl (Nat.le_of_ble_eq_true rfl) (Nat.le_of_ble_eq_true rfl) ?_
        exact Or.inr ⟨hb, (p1, p2, p3, p4, nI ln, lN v0, 1, p8, p9, p10, p11), ln, v0, rfl, rfl, rfl, rfl, hp4, hp5, hp6, by rw [ordI, if_pos (nI_z (by omega) c_36)]⟩
    · refine go_bipush (-2) dX11_order_11 (by decide) ?_
      refine go_ireturn dX11_order_13 rfl rfl (Nat.le_of_ble_eq_true rfl) (Nat.le_of_ble_eq_true rfl) ?_
      exact Or.inl ⟨by first | exact Or.inl c_2 | exact Or.inr c_8, rfl, rfl⟩
set_option maxRecDepth 100000 in
theorem ev_X11_best (t0 t1 : TX) (G N : TG) (T : TT) (C D : TC) (P : TP) (S : TS) (H0 H1 H2 H3 : TH) (ta : Nat → Int32) (lf : Int32) (hG : G.1 ≤ 8) (hG2 : GOK G.1 G.2.2) (hT : T.1 ≤ 9 ∧ T.2.1 ≤ 8) (hP : PInv G T P) (y : Int32) : Ev MX11_best [.ref 0, .int y] (cwd t0 t1 G N T C D P S H0 H1 H2 H3 ta lf) (fun v w => ¬ (y = 0 ∨ y = 1) ∧ v = some (.long badL) ∧ w = (cwd t0 t1 G N T C D P S H0 H1 H2 H3 ta lf) ∨ (y = 0 ∨ y = 1) ∧ ∃ (P2 : TP) (ln v0 : Nat), w = (cwd t0 t1 G N T C D P2 S H0 H1 H2 H3 ta lf) ∧ P2.2.2.2.2.2.2.1 = 1 ∧ P2.2.2.2.2.1 = nI ln ∧ P2.2.2.2.2.2.1 = lN v0 ∧ PlanOK G.1 G.2.2 T.1 T.2.1 (nI T.2.2) ln P2.2.2.2.2.2.2.2.2.2.2 v0 ∧ v0 ≤ 2 ^ 32 ∧ ln ≤ 8 ∧ v = some (.long (tolL v0 (4 * T.2.1) y))) := by
  refine ev_of bX11_best [some (.ref 0), some (.int y)] (Nat.le_of_ble_eq_true rfl) rfl ?_
  refine go_iload_n dX11_best_0 rfl ?_
  refine go_callSi (z := MX11_isEither) [] dX11_best_1 lX11_135 sX11_isEither (ev_X11_isEither _) rfl rfl rfl rfl rfl rfl ?_
  refine go_if_ne 13 dX11_best_4 (by decide) (fun c_4 => ?_) (fun c_4 => ?_)
  · refine go_aload_n dX11_best_13 rfl ?_
    refine go_getf fX11_55 dX11_best_14 rfl rfl ?_
    refine go_aload_n dX11_best_17 rfl ?_
    refine go_getf fX11_24 dX11_best_18 rfl rfl ?_
    refine go_aload_n dX11_best_21 rfl ?_
    refine go_getf fX11_38 dX11_best_22 rfl rfl ?_
    refine go_callV (z := MX5_makeOnce) [26, 27, 28, 29, 30, 5, 6, 9] dX11_best_25 lX11_184 sX5_makeOnce (ev_makeOnce G T P hG hG2 hT hP) rfl rfl rfl rfl rfl ⟨_, _, rfl⟩ (fit_of rfl) (res_of rfl) (fun v w1 h => by obtain ⟨-, P2, ln, v0, rfl, -⟩ := h; rfl) (fun v_25 w_25 h_25 => ?_)
    obtain ⟨rfl, P2, ln, v0, rfl, hp1, hp2, hp3, hp4, hp5, hp6⟩ := h_25
    obtain ⟨p1, p2, p3, p4, p5, p6, p7, p8, p9, p10, p11⟩ := P2
    dsimp only at hp1 hp2 hp3 hp4
    subst hp1
    subst hp2
    subst hp3
    refine go_aload_n dX11_best_28 rfl ?_
    refine go_getf fX11_55 dX11_best_29 rfl rfl ?_
    refine go_getf fX11_194 dX11_best_32 rfl rfl ?_
    refine go_iconst (4) dX11_best_35 (by decide) ?_
    refine go_aload_n dX11_best_36 rfl ?_
    refine go_getf fX11_38 dX11_best_37 rfl rfl ?_
    refine go_getf fX11_81 dX11_best_40 rfl rfl ?_
    refine go_imul dX11_best_43 ?_
    rw [mul4]
    refine go_iload_n dX11_best_44 rfl ?_
    refine go_callSj (z := MX1_told) [] dX11_best_45 lX11_162 sX1_told (ev_X1_told v0 (4 * T.2.1) (by omega) (by omega) y) rfl rfl rfl rfl rfl rfl ?_
    refine go_lreturn dX11_best_48 rfl (Nat.le_of_ble_eq_true rfl) (Nat.le_of_ble_eq_true rfl) ?_
    exact Or.inr ⟨void1 c_4, (p1, p2, p3, p4, nI ln, lN v0, 1, p8, p9, p10, p11), ln, v0, rfl, rfl, rfl, rfl, hp4, hp5, hp6, rfl⟩
  · refine go_bipush (-2) dX11_best_7 (by decide) ?_
    refine go_callSj (z := MX11_longRefusal) [] dX11_best_9 lX11_152 sX11_longRefusal (ev_X11_longRefusal _) rfl rfl rfl rfl rfl rfl ?_
    refine go_lreturn dX11_best_12 rfl (Nat.le_of_ble_eq_true rfl) (Nat.le_of_ble_eq_true rfl) ?_
    exact Or.inl ⟨void0 c_4, rfl, rfl⟩
