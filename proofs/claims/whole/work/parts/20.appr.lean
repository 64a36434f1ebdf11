abbrev TX : Type := Nat × (Nat → Int32)
abbrev TG : Type := Nat × Int32 × (Nat → Int32)
abbrev TT : Type := Nat × Nat × Nat
abbrev TC : Type := Int32 × Int32 × Int64 × (Nat → Int32) × (Nat → Int32) × (Nat → Int32) × (Nat → Int32) × (Nat → Int64) × (Nat → Int32) × (Nat → Int32)
abbrev TP : Type := Int32 × Int32 × Int32 × Int32 × Int32 × Int64 × Int32 × (Nat → Int64) × (Nat → Int32) × (Nat → Int32) × (Nat → Int32)
abbrev TS : Type := Nat × (Nat → Int32) × (Nat → Int32)
abbrev TH : Type := Int32 × Int32 × Nat × (Nat → Int32)
def cwd (t0 t1 : TX) (G N : TG) (T : TT) (C D : TC) (P : TP) (S : TS) (H0 H1 H2 H3 : TH) (ta : Nat → Int32) (lf : Int32) : List AE := [zO 9 [.ref 1, .ref 3, .ref 5, .ref 7, .ref 9, .ref 10, .ref 18, .ref 26, .ref 31, .ref 34, .ref 35, .int lf], zO 8 [.ref 2, .int (nI t0.1)], zI 47 t0.2, zO 8 [.ref 4, .int (nI t1.1)], zI 12 t1.2, zO 1 [.ref 6, .int (nI G.1), .int G.2.1], zI 40 G.2.2, zO 3 [.ref 8, .int (nI N.1), .int N.2.1], zI 12 N.2.2, zO 7 [.int (nI T.1), .int (nI T.2.1), .int (nI T.2.2)], zO 0 [.ref 11, .ref 12, .ref 13, .ref 14, .ref 15, .ref 16, .ref 17, .int C.1, .int C.2.1, .long C.2.2.1], zI 12 C.2.2.2.1, zI 12 C.2.2.2.2.1, zI 13 C.2.2.2.2.2.1, zI 13 C.2.2.2.2.2.2.1, zL 13 C.2.2.2.2.2.2.2.1, zI 13 C.2.2.2.2.2.2.2.2.1, zI 8 C.2.2.2.2.2.2.2.2.2, zO 0 [.ref 19, .ref 20, .ref 21, .ref 22, .ref 23, .ref 24, .ref 25, .int D.1, .int D.2.1, .long D.2.2.1], zI 12 D.2.2.2.1, zI 12 D.2.2.2.2.1, zI 13 D.2.2.2.2.2.1, zI 13 D.2.2.2.2.2.2.1, zL 13 D.2.2.2.2.2.2.2.1, zI 13 D.2.2.2.2.2.2.2.2.1, zI 8 D.2.2.2.2.2.2.2.2.2, zO 4 [.ref 27, .ref 28, .ref 29, .ref 30, .int P.1, .int P.2.1, .int P.2.2.1, .int P.2.2.2.1, .int P.2.2.2.2.1, .long P.2.2.2.2.2.1, .int P.2.2.2.2.2.2.1], zL 2560 P.2.2.2.2.2.2.2.1, zI 80 P.2.2.2.2.2.2.2.2.1, zI 80 P.2.2.2.2.2.2.2.2.2.1, zI 8 P.2.2.2.2.2.2.2.2.2.2, zO 6 [.ref 32, .ref 33, .int (nI S.1)], zI 8 S.2.1, zI 8 S.2.2, zR 4 [some 36, some 38, some 40, some 42], zI 48 ta, zO 5 [.ref 37, .int H0.1, .int H0.2.1, .int (nI H0.2.2.1)], zI 60 H0.2.2.2, zO 5 [.ref 39, .int H1.1, .int H1.2.1, .int (nI H1.2.2.1)], zI 60 H1.2.2.2, zO 5 [.ref 41, .int H2.1, .int H2.2.1, .int (nI H2.2.2.1)], zI 60 H2.2.2.2, zO 5 [.ref 43, .int H3.1, .int H3.2.1, .int (nI H3.2.2.1)], zI 60 H3.2.2.2]
def nmR (r : Nat → Int32) (i : Nat) : Nat := (r i).toNatClampNeg
def NOK (N : TG) : Prop := N.1 ≤ 12 ∧ ∀ i, i < N.1 → N.2.2 i = nI (nmR N.2.2 i) ∧ nmR N.2.2 i < 8
def CrsT (g : Nat) (pf : Nat → Int32) (nm : Nat → Nat) (s0 goal br : Int32) (h : Nat) (C : TC) : Prop := C.1 = nI h ∧ C.2.1 = goal ∧ CrsI g pf nm s0 goal br h C.2.2.2.1 C.2.2.2.2.1 C.2.2.2.2.2.1 C.2.2.2.2.2.2.1 C.2.2.2.2.2.2.2.2.1 C.2.2.2.2.2.2.2.2.2 C.2.2.2.2.2.2.2.1 C.2.2.1
theorem in_range {x : Int32} {n : Nat} (h0 : ¬ x < 0) (h1 : ¬ nI n ≤ x) (hn : n < 2 ^ 31) : x = nI x.toNatClampNeg ∧ x.toNatClampNeg < n := by
  rcases pk_ix x hn with h | h | ⟨j, hj, rfl⟩
  · exact absurd h h0
  · exact absurd h h1
  · rw [nI_clamp (by omega)]
    exact ⟨rfl, hj⟩
theorem lt_of4 {y : Int32} (h : nI 5 ≤ y) : (4 : Int32) < y := by
  rw [Int32.le_iff_toInt_le] at h
  rw [Int32.lt_iff_toInt_lt]
  have h1 : (nI 5).toInt = 5 := by decide
  have h2 : (4 : Int32).toInt = 4 := by decide
  omega
theorem vin_le {x : Int32} {n m : Nat} (h : ¬ (if x < 0 ∨ nI n < x then (0 : Int32) else 1) = 0) (hn : n < m ∧ n < 2 ^ 31) : vp_in x m := by
  have h1 : ¬ (x < 0 ∨ nI n < x) := fun q => h (if_pos q)
  rw [vp_in_iff]
  have h2 : ¬ x < 0 := fun q => h1 (Or.inl q)
  have h3 : ¬ nI n < x := fun q => h1 (Or.inr q)
  rw [Int32.lt_iff_toInt_lt] at h2 h3
  rw [nI_toInt hn.2] at h3
  have : (0 : Int32).toInt = 0 := rfl
  omega
theorem full_f {s : Int32} (h : (if s < 8 then (0 : Int32) else 1) = 0) : ¬ (8 : Int32) ≤ s := fun q => by
  rw [if_neg (by simpa using q)] at h
  exact absurd h (by decide)
theorem eight_of {s : Nat} (h : ¬ (if nI s < 8 then (0 : Int32) else 1) = 0) (hs : s ≤ 8) : s = 8 := by
  by_cases q : s = 8
  · exact q
  · exact absurd (if_pos (nI_lt (a := s) (b := 8) (by omega) (by decide))) h
theorem full_t2 {Q : Prop} [Decidable Q] (h : (if Q then (0 : Int32) else 1) = 0) : Q := by
  by_cases q : Q
  · exact q
  · rw [if_neg q] at h; exact absurd h (by decide)
theorem full_t3 {Q : Prop} [Decidable Q] (h : ¬ (if Q then (0 : Int32) else 1) = 0) : ¬ Q := fun q => h (if_pos q)
set_option maxRecDepth 100000 in
theorem ev_X11_isText (x : Int32) : Ev MX11_isText [.int x] [] (Ri [] (if x = 0 ∨ x = 1 then 1 else 0)) := by
  refine ev_of bX11_isText [some (.int x)] (Nat.le_of_ble_eq_true rfl) rfl ?_
  refine go_iload_n dX11_isText_0 rfl ?_
  refine go_if_eq 9 dX11_isText_1 (by decide) (fun c_1 => ?_) (fun c_1 => ?_)
  · refine go_iconst (1) dX11_isText_9 (by decide) ?_
    refine go_goto 14 dX11_isText_10 (by decide) ?_
    refine go_ireturn dX11_isText_14 rfl (by decide) (Nat.le_of_ble_eq_true rfl) (Nat.le_of_ble_eq_true rfl) ?_
    exact ⟨by simp [*], rfl⟩
  · refine go_iload_n dX11_isText_4 rfl ?_
    refine go_iconst (1) dX11_isText_5 (by decide) ?_
    refine go_icmp_ne 13 dX11_isText_6 (by decide) (fun c_6 => ?_) (fun c_6 => ?_)
    · refine go_iconst (0) dX11_isText_13 (by decide) ?_
      refine go_ireturn dX11_isText_14 rfl (by decide) (Nat.le_of_ble_eq_true rfl) (Nat.le_of_ble_eq_true rfl) ?_
      exact ⟨by simp [*], rfl⟩
    · refine go_iconst (1) dX11_isText_9 (by decide) ?_
      refine go_goto 14 dX11_isText_10 (by decide) ?_
      refine go_ireturn dX11_isText_14 rfl (by decide) (Nat.le_of_ble_eq_true rfl) (Nat.le_of_ble_eq_true rfl) ?_
      exact ⟨by simp [*], rfl⟩
set_option maxRecDepth 100000 in
theorem ev_X11_isEither (x : Int32) : Ev MX11_isEither [.int x] [] (Ri [] (if x = 0 ∨ x = 1 then 1 else 0)) := by
  refine ev_of bX11_isEither [some (.int x)] (Nat.le_of_ble_eq_true rfl) rfl ?_
  refine go_iload_n dX11_isEither_0 rfl ?_
  refine go_if_eq 9 dX11_isEither_1 (by decide) (fun c_1 => ?_) (fun c_1 => ?_)
  · refine go_iconst (1) dX11_isEither_9 (by decide) ?_
    refine go_goto 14 dX11_isEither_10 (by decide) ?_
    refine go_ireturn dX11_isEither_14 rfl (by decide) (Nat.le_of_ble_eq_true rfl) (Nat.le_of_ble_eq_true rfl) ?_
    exact ⟨by simp [*], rfl⟩
  · refine go_iload_n dX11_isEither_4 rfl ?_
    refine go_iconst (1) dX11_isEither_5 (by decide) ?_
    refine go_icmp_ne 13 dX11_isEither_6 (by decide) (fun c_6 => ?_) (fun c_6 => ?_)
    · refine go_iconst (0) dX11_isEither_13 (by decide) ?_
      refine go_ireturn dX11_isEither_14 rfl (by decide) (Nat.le_of_ble_eq_true rfl) (Nat.le_of_ble_eq_true rfl) ?_
      exact ⟨by simp [*], rfl⟩
    · refine go_iconst (1) dX11_isEither_9 (by decide) ?_
      refine go_goto 14 dX11_isEither_10 (by decide) ?_
      refine go_ireturn dX11_isEither_14 rfl (by decide) (Nat.le_of_ble_eq_true rfl) (Nat.le_of_ble_eq_true rfl) ?_
      exact ⟨by simp [*], rfl⟩
set_option maxRecDepth 100000 in
theorem ev_X11_isSheet (x : Int32) : Ev MX11_isSheet [.int x] [] (Ri [] (if x < 0 ∨ 4 ≤ x then 0 else 1)) := by
  refine ev_of bX11_isSheet [some (.int x)] (Nat.le_of_ble_eq_true rfl) rfl ?_
  refine go_iload_n dX11_isSheet_0 rfl ?_
  refine go_if_lt 13 dX11_isSheet_1 (by decide) (fun c_1 => ?_) (fun c_1 => ?_)
  · refine go_iconst (0) dX11_isSheet_13 (by decide) ?_
    refine go_ireturn dX11_isSheet_14 rfl (by decide) (Nat.le_of_ble_eq_true rfl) (Nat.le_of_ble_eq_true rfl) ?_
    exact ⟨by simp [*], rfl⟩
  · refine go_iload_n dX11_isSheet_4 rfl ?_
    refine go_iconst (4) dX11_isSheet_5 (by decide) ?_
    refine go_icmp_ge 13 dX11_isSheet_6 (by decide) (fun c_6 => ?_) (fun c_6 => ?_)
    · refine go_iconst (0) dX11_isSheet_13 (by decide) ?_
      refine go_ireturn dX11_isSheet_14 rfl (by decide) (Nat.le_of_ble_eq_true rfl) (Nat.le_of_ble_eq_true rfl) ?_
      exact ⟨by simp [*], rfl⟩
    · refine go_iconst (1) dX11_isSheet_9 (by decide) ?_
      refine go_goto 14 dX11_isSheet_10 (by decide) ?_
      refine go_ireturn dX11_isSheet_14 rfl (by decide) (Nat.le_of_ble_eq_true rfl) (Nat.le_of_ble_eq_true rfl) ?_
      exact ⟨by simp [*], rfl⟩
set_option maxRecDepth 100000 in
theorem ev_X11_isForm (x : Int32) : Ev MX11_isForm [.int x] [] (Ri [] (if x < 0 ∨ 3 ≤ x then 0 else 1)) := by
  refine ev_of bX11_isForm [some (.int x)] (Nat.le_of_ble_eq_true rfl) rfl ?_
  refine go_iload_n dX11_isForm_0 rfl ?_
  refine go_if_lt 13 dX11_isForm_1 (by decide) (fun c_1 => ?_) (fun c_1 => ?_)
  · refine go_iconst (0) dX11_isForm_13 (by decide) ?_
    refine go_ireturn dX11_isForm_14 rfl (by decide) (Nat.le_of_ble_eq_true rfl) (Nat.le_of_ble_eq_true rfl) ?_
    exact ⟨by simp [*], rfl⟩
  · refine go_iload_n dX11_isForm_4 rfl ?_
    refine go_iconst (3) dX11_isForm_5 (by decide) ?_
    refine go_icmp_ge 13 dX11_isForm_6 (by decide) (fun c_6 => ?_) (fun c_6 => ?_)
    · refine go_iconst (0) dX11_isForm_13 (by decide) ?_
      refine go_ireturn dX11_isForm_14 rfl (by decide) (Nat.le_of_ble_eq_true rfl) (Nat.le_of_ble_eq_true rfl) ?_
      exact ⟨by simp [*], rfl⟩
    · refine go_iconst (1) dX11_isForm_9 (by decide) ?_
      refine go_goto 14 dX11_isForm_10 (by decide) ?_
      refine go_ireturn dX11_isForm_14 rfl (by decide) (Nat.le_of_ble_eq_true rfl) (Nat.le_of_ble_eq_true rfl) ?_
      exact ⟨by simp [*], rfl⟩
set_option maxRecDepth 100000 in
theorem ev_X11_longRefusal (x : Int32) : Ev MX11_longRefusal [.int x] [] (Rj [] (-9223372036854775808 - x.toInt64)) := by
  refine ev_of bX11_longRefusal [some (.int x)] (Nat.le_of_ble_eq_true rfl) rfl ?_
  refine go_ldc2_w dX11_longRefusal_0 kX11_371 ?_
  refine go_iload_n dX11_longRefusal_3 rfl ?_
  refine go_i2l dX11_longRefusal_4 ?_
  refine go_lsub dX11_longRefusal_5 ?_
  refine go_lreturn dX11_longRefusal_6 rfl (Nat.le_of_ble_eq_true rfl) (Nat.le_of_ble_eq_true rfl) ?_
  exact ⟨rfl, rfl⟩
set_option maxRecDepth 100000 in
theorem ev_X11_isNumberOfNames (t0 t1 : TX) (G N : TG) (T : TT) (C D : TC) (P : TP) (S : TS) (H0 H1 H2 H3 : TH) (ta : Nat → Int32) (lf : Int32) (x : Int32) : Ev MX11_isNumberOfNames [.ref 0, .int x] (cwd t0 t1 G N T C D P S H0 H1 H2 H3 ta lf) (Ri (cwd t0 t1 G N T C D P S H0 H1 H2 H3 ta lf) (if x < 0 ∨ nI N.1 < x then 0 else 1)) := by
  refine ev_of bX11_isNumberOfNames [some (.ref 0), some (.int x)] (Nat.le_of_ble_eq_true rfl) rfl ?_
  refine go_iload_n dX11_isNumberOfNames_0 rfl ?_
  refine go_if_lt 19 dX11_isNumberOfNames_1 (by decide) (fun c_1 => ?_) (fun c_1 => ?_)
  · refine go_iconst (0) dX11_isNumberOfNames_19 (by decide) ?_
    refine go_ireturn dX11_isNumberOfNames_20 rfl (by decide) (Nat.le_of_ble_eq_true rfl) (Nat.le_of_ble_eq_true rfl) ?_
    exact ⟨by simp [*], rfl⟩
  · refine go_iload_n dX11_isNumberOfNames_4 rfl ?_
    refine go_aload_n dX11_isNumberOfNames_5 rfl ?_
    refine go_getf fX11_31 dX11_isNumberOfNames_6 rfl rfl ?_
    refine go_getf fX11_134 dX11_isNumberOfNames_9 rfl rfl ?_
    refine go_icmp_gt 19 dX11_isNumberOfNames_12 (by decide) (fun c_12 => ?_) (fun c_12 => ?_)
    · refine go_iconst (0) dX11_isNumberOfNames_19 (by decide) ?_
      refine go_ireturn dX11_isNumberOfNames_20 rfl (by decide) (Nat.le_of_ble_eq_true rfl) (Nat.le_of_ble_eq_true rfl) ?_
      exact ⟨by simp [*], rfl⟩
    · refine go_iconst (1) dX11_isNumberOfNames_15 (by decide) ?_
      refine go_goto 20 dX11_isNumberOfNames_16 (by decide) ?_
      refine go_ireturn dX11_isNumberOfNames_20 rfl (by decide) (Nat.le_of_ble_eq_true rfl) (Nat.le_of_ble_eq_true rfl) ?_
      exact ⟨by simp [*], rfl⟩
set_option maxRecDepth 100000 in
theorem ev_X11_finding (t0 t1 : TX) (G N : TG) (T : TT) (C D : TC) (P : TP) (S : TS) (H0 H1 H2 H3 : TH) (ta : Nat → Int32) (lf : Int32) (x : Int32) : Ev MX11_finding [.ref 0, .int x] (cwd t0 t1 G N T C D P S H0 H1 H2 H3 ta lf) (Rw (some (.int (-10 - x))) (cwd t0 t1 G N T C D P S H0 H1 H2 H3 ta x)) := by
  refine ev_of bX11_finding [some (.ref 0), some (.int x)] (Nat.le_of_ble_eq_true rfl) rfl ?_
  refine go_aload_n dX11_finding_0 rfl ?_
  refine go_iload_n dX11_finding_1 rfl ?_
  refine go_putf fX11_269 dX11_finding_2 rfl (fun _ _ _ h => by cases h; rfl) (fun _ => rfl) (fun _ => rfl) (Nat.le_of_ble_eq_true rfl) ?_
  refine go_bipush (-10) dX11_finding_5 (by decide) ?_
  refine go_iload_n dX11_finding_7 rfl ?_
  refine go_isub dX11_finding_8 ?_
  refine go_ireturn dX11_finding_9 rfl rfl (Nat.le_of_ble_eq_true rfl) (Nat.le_of_ble_eq_true rfl) ?_
  exact ⟨rfl, rfl⟩
set_option maxRecDepth 100000 in
theorem ev_X11_textOf (t0 t1 : TX) (G N : TG) (T : TT) (C D : TC) (P : TP) (S : TS) (H0 H1 H2 H3 : TH) (ta : Nat → Int32) (lf : Int32) (x : Int32) : Ev MX11_textOf [.ref 0, .int x] (cwd t0 t1 G N T C D P S H0 H1 H2 H3 ta lf) (Rd (cwd t0 t1 G N T C D P S H0 H1 H2 H3 ta lf) (fun v => v = some (.ref (if x = 0 then 1 else 3)))) := by
  refine ev_of bX11_textOf [some (.ref 0), some (.int x)] (Nat.le_of_ble_eq_true rfl) rfl ?_
  refine go_iload_n dX11_textOf_0 rfl ?_
  refine go_if_ne 11 dX11_textOf_1 (by decide) (fun c_1 => ?_) (fun c_1 => ?_)
  · refine go_aload_n dX11_textOf_11 rfl ?_
    refine go_getf fX11_18 dX11_textOf_12 rfl rfl ?_
    refine go_areturn dX11_textOf_15 rfl (Nat.le_of_ble_eq_true rfl) (Nat.le_of_ble_eq_true rfl) ?_
    exact ⟨by simp [*], rfl⟩
  · refine go_aload_n dX11_textOf_4 rfl ?_
    refine go_getf fX11_14 dX11_textOf_5 rfl rfl ?_
    refine go_goto 15 dX11_textOf_8 (by decide) ?_
    refine go_areturn dX11_textOf_15 rfl (Nat.le_of_ble_eq_true rfl) (Nat.le_of_ble_eq_true rfl) ?_
    exact ⟨by simp [*], rfl⟩
set_option maxRecDepth 100000 in
theorem ev_X11_fault (t0 t1 : TX) (G N : TG) (T : TT) (C D : TC) (P : TP) (S : TS) (H0 H1 H2 H3 : TH) (ta : Nat → Int32) (lf : Int32) (x : Int32) : Ev MX11_fault [.ref 0, .int x] (cwd t0 t1 G N T C D P S H0 H1 H2 H3 ta lf) (Ri (cwd t0 t1 G N T C D P S H0 H1 H2 H3 ta lf) (if x = 0 then G.2.1 else if x = 1 then N.2.1 else -2)) := by
  refine ev_of bX11_fault [some (.ref 0), some (.int x)] (Nat.le_of_ble_eq_true rfl) rfl ?_
  refine go_iload_n dX11_fault_0 rfl ?_
  refine go_callSi (z := MX11_isText) [] dX11_fault_1 lX11_88 sX11_isText (ev_X11_isText _) rfl rfl rfl rfl rfl rfl ?_
  refine go_if_ne 10 dX11_fault_4 (by decide) (fun c_4 => ?_) (fun c_4 => ?_)
  · refine go_iload_n dX11_fault_10 rfl ?_
    refine go_if_ne 24 dX11_fault_11 (by decide) (fun c_11 => ?_) (fun c_11 => ?_)
    · refine go_aload_n dX11_fault_24 rfl ?_
      refine go_getf fX11_31 dX11_fault_25 rfl rfl ?_
      refine go_getf fX11_112 dX11_fault_28 rfl rfl ?_
      refine go_ireturn dX11_fault_31 rfl rfl (Nat.le_of_ble_eq_true rfl) (Nat.le_of_ble_eq_true rfl) ?_
      exact ⟨by simp_all <;> first | done | omega, rfl⟩
    · refine go_aload_n dX11_fault_14 rfl ?_
      refine go_getf fX11_24 dX11_fault_15 rfl rfl ?_
      refine go_getf fX11_109 dX11_fault_18 rfl rfl ?_
      refine go_goto 31 dX11_fault_21 (by decide) ?_
      refine go_ireturn dX11_fault_31 rfl rfl (Nat.le_of_ble_eq_true rfl) (Nat.le_of_ble_eq_true rfl) ?_
      exact ⟨by simp_all <;> first | done | omega, rfl⟩
  · refine go_bipush (-2) dX11_fault_7 (by decide) ?_
    refine go_ireturn dX11_fault_9 rfl rfl (Nat.le_of_ble_eq_true rfl) (Nat.le_of_ble_eq_true rfl) ?_
    exact ⟨by simp_all <;> first | done | omega, rfl⟩
set_option maxRecDepth 100000 in
theorem ev_X11_felon (t0 t1 : TX) (G N : TG) (T : TT) (C D : TC) (P : TP) (S : TS) (H0 H1 H2 H3 : TH) (ta : Nat → Int32) (lf : Int32) (x y : Int32) (hg : G.1 ≤ 8) : Ev MX11_felon [.ref 0, .int x, .int y] (cwd t0 t1 G N T C D P S H0 H1 H2 H3 ta lf) (Ri (cwd t0 t1 G N T C D P S H0 H1 H2 H3 ta lf) (if x < 0 ∨ nI G.1 ≤ x ∨ y < 0 ∨ 4 < y then -2 else G.2.2 (5 * x.toNatClampNeg + y.toNatClampNeg))) := by
  refine ev_of bX11_felon [some (.ref 0), some (.int x), some (.int y)] (Nat.le_of_ble_eq_true rfl) rfl ?_
  refine go_aload_n dX11_felon_0 rfl ?_
  refine go_getf fX11_24 dX11_felon_1 rfl rfl ?_
  refine go_iload_n dX11_felon_4 rfl ?_
  refine go_callVi (z := MX2_has) [5, 6] dX11_felon_5 lX11_113 sX2_has (ev_X2_has _ _ _ _) rfl rfl rfl rfl rfl ⟨_, _, rfl⟩ rfl rfl ?_
  refine go_if_eq 20 dX11_felon_8 (by decide) (fun c_8 => ?_) (fun c_8 => ?_)
  · refine go_bipush (-2) dX11_felon_20 (by decide) ?_
    refine go_ireturn dX11_felon_22 rfl rfl (Nat.le_of_ble_eq_true rfl) (Nat.le_of_ble_eq_true rfl) ?_
    have hA : x < 0 ∨ nI G.1 ≤ x ∨ y < 0 ∨ 4 < y := by
      first
        | exact (full_t2 c_8).elim Or.inl (fun h => Or.inr (Or.inl h))
        | exact Or.inr (Or.inr (Or.inl c_12))
        | exact Or.inr (Or.inr (Or.inr (by simpa using c_17)))
    exact ⟨by rw [if_pos hA], rfl⟩
  · refine go_iload_n dX11_felon_11 rfl ?_
    refine go_if_lt 20 dX11_felon_12 (by decide) (fun c_12 => ?_) (fun c_12 => ?_)
    · refine go_bipush (-2) dX11_felon_20 (by decide) ?_
      refine go_ireturn dX11_felon_22 rfl rfl (Nat.le_of_ble_eq_true rfl) (Nat.le_of_ble_eq_true rfl) ?_
      have hA : x < 0 ∨ nI G.1 ≤ x ∨ y < 0 ∨ 4 < y := by
        first
          | exact (full_t2 c_8).elim Or.inl (fun h => Or.inr (Or.inl h))
          | exact Or.inr (Or.inr (Or.inl c_12))
          | exact Or.inr (Or.inr (Or.inr (by simpa using c_17)))
      exact ⟨by rw [if_pos hA], rfl⟩
    · refine go_iload_n dX11_felon_15 rfl ?_
      refine go_iconst (4) dX11_felon_16 (by decide) ?_
      refine go_icmp_le 23 dX11_felon_17 (by decide) (fun c_17 => ?_) (fun c_17 => ?_)
      · have hnb : ¬ (x < 0 ∨ nI G.1 ≤ x) := fun q => c_8 (if_pos q)
        obtain ⟨hx1, hx3⟩ := in_range (fun q => hnb (Or.inl q)) (fun q => hnb (Or.inr q)) (show G.1 < 2 ^ 31 by omega)
        obtain ⟨hy1, hy3⟩ := in_range (n := 5) c_12 (fun q => absurd c_17 (by simpa using lt_of4 q)) (by decide)
        refine go_aload_n dX11_felon_23 rfl ?_
        refine go_getf fX11_24 dX11_felon_24 rfl rfl ?_
        refine go_iload_n dX11_felon_27 rfl ?_
        refine go_iload_n dX11_felon_28 rfl ?_
        refine go_callVi (z := MX2_part) [5, 6] dX11_felon_29 lX11_116 sX2_part (ev_partE (j := x.toNatClampNeg) (k := y.toNatClampNeg) hx1 hy1 (by omega) (by omega)) rfl rfl rfl rfl rfl ⟨_, _, rfl⟩ rfl rfl ?_
        refine go_ireturn dX11_felon_32 rfl rfl (Nat.le_of_ble_eq_true rfl) (Nat.le_of_ble_eq_true rfl) ?_
        have hA : ¬ (x < 0 ∨ nI G.1 ≤ x ∨ y < 0 ∨ 4 < y) := by
          rintro (q | q | q | q)
          · exact hnb (Or.inl q)
          · exact hnb (Or.inr q)
          · exact c_12 q
          · exact absurd c_17 (by simpa using q)
        exact ⟨by rw [if_neg hA], rfl⟩
      · refine go_bipush (-2) dX11_felon_20 (by decide) ?_
        refine go_ireturn dX11_felon_22 rfl rfl (Nat.le_of_ble_eq_true rfl) (Nat.le_of_ble_eq_true rfl) ?_
        have hA : x < 0 ∨ nI G.1 ≤ x ∨ y < 0 ∨ 4 < y := by
          first
            | exact (full_t2 c_8).elim Or.inl (fun h => Or.inr (Or.inl h))
            | exact Or.inr (Or.inr (Or.inl c_12))
            | exact Or.inr (Or.inr (Or.inr (by simpa using c_17)))
        exact ⟨by rw [if_pos hA], rfl⟩
set_option maxRecDepth 100000 in
theorem ev_X11_name (t0 t1 : TX) (G N : TG) (T : TT) (C D : TC) (P : TP) (S : TS) (H0 H1 H2 H3 : TH) (ta : Nat → Int32) (lf : Int32) (x : Int32) (hN : N.1 ≤ 12) : Ev MX11_name [.ref 0, .int x] (cwd t0 t1 G N T C D P S H0 H1 H2 H3 ta lf) (Ri (cwd t0 t1 G N T C D P S H0 H1 H2 H3 ta lf) (if x < 0 ∨ ¬ x < 12 then -2 else if x < 0 ∨ nI N.1 ≤ x then -1 else N.2.2 x.toNatClampNeg)) := by
  refine ev_of bX11_name [some (.ref 0), some (.int x)] (Nat.le_of_ble_eq_true rfl) rfl ?_
  refine go_iload_n dX11_name_0 rfl ?_
  refine go_if_lt 10 dX11_name_1 (by decide) (fun c_1 => ?_) (fun c_1 => ?_)
  · refine go_bipush (-2) dX11_name_10 (by decide) ?_
    refine go_ireturn dX11_name_12 rfl rfl (Nat.le_of_ble_eq_true rfl) (Nat.le_of_ble_eq_true rfl) ?_
    exact ⟨by simp [*], rfl⟩
  · refine go_iload_n dX11_name_4 rfl ?_
    refine go_bipush (12) dX11_name_5 (by decide) ?_
    refine go_icmp_lt 13 dX11_name_7 (by decide) (fun c_7 => ?_) (fun c_7 => ?_)
    · refine go_aload_n dX11_name_13 rfl ?_
      refine go_getf fX11_31 dX11_name_14 rfl rfl ?_
      refine go_iload_n dX11_name_17 rfl ?_
      refine go_callVi (z := MX4_whoAt) [7, 8] dX11_name_18 lX11_120 sX4_whoAt (ev_X4_whoAt _ _ _ _ (by rw [nI_toInt (by omega)]; omega)) rfl rfl rfl rfl rfl ⟨_, _, rfl⟩ rfl rfl ?_
      refine go_ireturn dX11_name_21 rfl rfl (Nat.le_of_ble_eq_true rfl) (Nat.le_of_ble_eq_true rfl) ?_
      exact ⟨by simp [*], rfl⟩
    · refine go_bipush (-2) dX11_name_10 (by decide) ?_
      refine go_ireturn dX11_name_12 rfl rfl (Nat.le_of_ble_eq_true rfl) (Nat.le_of_ble_eq_true rfl) ?_
      exact ⟨by simp [*], rfl⟩
set_option maxRecDepth 100000 in
theorem ev_X11_comes (t0 t1 : TX) (G N : TG) (T : TT) (C D : TC) (P : TP) (S : TS) (H0 H1 H2 H3 : TH) (ta : Nat → Int32) (lf : Int32) (x y : Int32) (hN : N.1 ≤ 12) : Ev MX11_comes [.ref 0, .int x, .int y] (cwd t0 t1 G N T C D P S H0 H1 H2 H3 ta lf) (Ri (cwd t0 t1 G N T C D P S H0 H1 H2 H3 ta lf) (if x < 0 ∨ nI N.1 ≤ x ∨ ¬ (y = 0 ∨ y = 1) then -2 else if y = 0 then C.2.2.2.1 x.toNatClampNeg else C.2.2.2.2.1 x.toNatClampNeg)) := by
  refine ev_of bX11_comes [some (.ref 0), some (.int x), some (.int y)] (Nat.le_of_ble_eq_true rfl) rfl ?_
  refine go_iload_n dX11_comes_0 rfl ?_
  refine go_if_lt 22 dX11_comes_1 (by decide) (fun c_1 => ?_) (fun c_1 => ?_)
  · refine go_bipush (-2) dX11_comes_22 (by decide) ?_
    refine go_ireturn dX11_comes_24 rfl rfl (Nat.le_of_ble_eq_true rfl) (Nat.le_of_ble_eq_true rfl) ?_
    have hA : x < 0 ∨ nI N.1 ≤ x ∨ ¬ (y = 0 ∨ y = 1) := by
      first
        | exact Or.inl c_1
        | exact Or.inr (Or.inl c_12)
        | exact Or.inr (Or.inr (void0 c_19))
    exact ⟨by rw [if_pos hA], rfl⟩
  · refine go_iload_n dX11_comes_4 rfl ?_
    refine go_aload_n dX11_comes_5 rfl ?_
    refine go_getf fX11_31 dX11_comes_6 rfl rfl ?_
    refine go_getf fX11_134 dX11_comes_9 rfl rfl ?_
    refine go_icmp_ge 22 dX11_comes_12 (by decide) (fun c_12 => ?_) (fun c_12 => ?_)
    · refine go_bipush (-2) dX11_comes_22 (by decide) ?_
      refine go_ireturn dX11_comes_24 rfl rfl (Nat.le_of_ble_eq_true rfl) (Nat.le_of_ble_eq_true rfl) ?_
      have hA : x < 0 ∨ nI N.1 ≤ x ∨ ¬ (y = 0 ∨ y = 1) := by
        first
          | exact Or.inl c_1
          | exact Or.inr (Or.inl c_12)
          | exact Or.inr (Or.inr (void0 c_19))
      exact ⟨by rw [if_pos hA], rfl⟩
    · refine go_iload_n dX11_comes_15 rfl ?_
      refine go_callSi (z := MX11_isEither) [] dX11_comes_16 lX11_135 sX11_isEither (ev_X11_isEither _) rfl rfl rfl rfl rfl rfl ?_
      refine go_if_ne 25 dX11_comes_19 (by decide) (fun c_19 => ?_) (fun c_19 => ?_)
      · refine go_iload_n dX11_comes_25 rfl ?_
        refine go_if_ne 41 dX11_comes_26 (by decide) (fun c_26 => ?_) (fun c_26 => ?_)
        · refine go_aload_n dX11_comes_41 rfl ?_
          refine go_getf fX11_45 dX11_comes_42 rfl rfl ?_
          refine go_getf fX11_141 dX11_comes_45 rfl rfl ?_
          refine go_iload_n dX11_comes_48 rfl ?_
          refine go_iald dX11_comes_49 rfl (vin_of c_1 c_12 (by rw [nI_toInt (by omega)]; omega)) ?_
          refine go_ireturn dX11_comes_50 rfl rfl (Nat.le_of_ble_eq_true rfl) (Nat.le_of_ble_eq_true rfl) ?_
          have hA : ¬ (x < 0 ∨ nI N.1 ≤ x ∨ ¬ (y = 0 ∨ y = 1)) := by
            rintro (q | q | q)
            · exact c_1 q
            · exact c_12 q
            · exact q (void1 c_19)
          exact ⟨by rw [if_neg hA]; simp [c_26], rfl⟩
        · refine go_aload_n dX11_comes_29 rfl ?_
          refine go_getf fX11_45 dX11_comes_30 rfl rfl ?_
          refine go_getf fX11_138 dX11_comes_33 rfl rfl ?_
          refine go_iload_n dX11_comes_36 rfl ?_
          refine go_iald dX11_comes_37 rfl (vin_of c_1 c_12 (by rw [nI_toInt (by omega)]; omega)) ?_
          refine go_goto 50 dX11_comes_38 (by decide) ?_
          refine go_ireturn dX11_comes_50 rfl rfl (Nat.le_of_ble_eq_true rfl) (Nat.le_of_ble_eq_true rfl) ?_
          have hA : ¬ (x < 0 ∨ nI N.1 ≤ x ∨ ¬ (y = 0 ∨ y = 1)) := by
            rintro (q | q | q)
            · exact c_1 q
            · exact c_12 q
            · exact q (void1 c_19)
          exact ⟨by rw [if_neg hA]; simp [c_26], rfl⟩
      · refine go_bipush (-2) dX11_comes_22 (by decide) ?_
        refine go_ireturn dX11_comes_24 rfl rfl (Nat.le_of_ble_eq_true rfl) (Nat.le_of_ble_eq_true rfl) ?_
        have hA : x < 0 ∨ nI N.1 ≤ x ∨ ¬ (y = 0 ∨ y = 1) := by
          first
            | exact Or.inl c_1
            | exact Or.inr (Or.inl c_12)
            | exact Or.inr (Or.inr (void0 c_19))
        exact ⟨by rw [if_pos hA], rfl⟩
set_option maxRecDepth 100000 in
theorem ev_X11_behind (t0 t1 : TX) (G N : TG) (T : TT) (C D : TC) (P : TP) (S : TS) (H0 H1 H2 H3 : TH) (ta : Nat → Int32) (lf : Int32) (x y : Int32) (hN : N.1 ≤ 12) : Ev MX11_behind [.ref 0, .int x, .int y] (cwd t0 t1 G N T C D P S H0 H1 H2 H3 ta lf) (Ri (cwd t0 t1 G N T C D P S H0 H1 H2 H3 ta lf) (if x < 0 ∨ nI N.1 < x ∨ ¬ (y = 0 ∨ y = 1) then -2 else if y = 0 then C.2.2.2.2.2.1 x.toNatClampNeg else C.2.2.2.2.2.2.1 x.toNatClampNeg)) := by
  refine ev_of bX11_behind [some (.ref 0), some (.int x), some (.int y)] (Nat.le_of_ble_eq_true rfl) rfl ?_
  refine go_aload_n dX11_behind_0 rfl ?_
  refine go_iload_n dX11_behind_1 rfl ?_
  refine go_callVi (z := MX11_isNumberOfNames) [0, 1, 2, 3, 4, 5, 6, 7, 8, 9, 10, 11, 12, 13, 14, 15, 16, 17, 18, 19, 20, 21, 22, 23, 24, 25, 26, 27, 28, 29, 30, 31, 32, 33, 34, 35, 36, 37, 38, 39, 40, 41, 42, 43] dX11_behind_2 lX11_144 sX11_isNumberOfNames (ev_X11_isNumberOfNames t0 t1 G N T C D P S H0 H1 H2 H3 ta lf x) rfl rfl rfl rfl rfl ⟨_, _, rfl⟩ rfl rfl ?_
  refine go_if_eq 15 dX11_behind_5 (by decide) (fun c_5 => ?_) (fun c_5 => ?_)
  · refine go_bipush (-2) dX11_behind_15 (by decide) ?_
    refine go_ireturn dX11_behind_17 rfl rfl (Nat.le_of_ble_eq_true rfl) (Nat.le_of_ble_eq_true rfl) ?_
    have hA : x < 0 ∨ nI N.1 < x ∨ ¬ (y = 0 ∨ y = 1) := by
      first
        | exact (full_t2 c_5).elim Or.inl (fun h => Or.inr (Or.inl h))
        | exact Or.inr (Or.inr (void0 c_12))
    exact ⟨by rw [if_pos hA], rfl⟩
  · refine go_iload_n dX11_behind_8 rfl ?_
    refine go_callSi (z := MX11_isEither) [] dX11_behind_9 lX11_135 sX11_isEither (ev_X11_isEither _) rfl rfl rfl rfl rfl rfl ?_
    refine go_if_ne 18 dX11_behind_12 (by decide) (fun c_12 => ?_) (fun c_12 => ?_)
    · refine go_iload_n dX11_behind_18 rfl ?_
      refine go_if_ne 34 dX11_behind_19 (by decide) (fun c_19 => ?_) (fun c_19 => ?_)
      · refine go_aload_n dX11_behind_34 rfl ?_
        refine go_getf fX11_45 dX11_behind_35 rfl rfl ?_
        refine go_getf fX11_149 dX11_behind_38 rfl rfl ?_
        refine go_iload_n dX11_behind_41 rfl ?_
        refine go_iald dX11_behind_42 rfl (vin_le c_5 (by omega)) ?_
        refine go_ireturn dX11_behind_43 rfl rfl (Nat.le_of_ble_eq_true rfl) (Nat.le_of_ble_eq_true rfl) ?_
        have hA : ¬ (x < 0 ∨ nI N.1 < x ∨ ¬ (y = 0 ∨ y = 1)) := by
          rintro (q | q | q)
          · exact full_t3 c_5 (Or.inl q)
          · exact full_t3 c_5 (Or.inr q)
          · exact q (void1 c_12)
        exact ⟨by rw [if_neg hA]; simp [c_19], rfl⟩
      · refine go_aload_n dX11_behind_22 rfl ?_
        refine go_getf fX11_45 dX11_behind_23 rfl rfl ?_
        refine go_getf fX11_147 dX11_behind_26 rfl rfl ?_
        refine go_iload_n dX11_behind_29 rfl ?_
        refine go_iald dX11_behind_30 rfl (vin_le c_5 (by omega)) ?_
        refine go_goto 43 dX11_behind_31 (by decide) ?_
        refine go_ireturn dX11_behind_43 rfl rfl (Nat.le_of_ble_eq_true rfl) (Nat.le_of_ble_eq_true rfl) ?_
        have hA : ¬ (x < 0 ∨ nI N.1 < x ∨ ¬ (y = 0 ∨ y = 1)) := by
          rintro (q | q | q)
          · exact full_t3 c_5 (Or.inl q)
          · exact full_t3 c_5 (Or.inr q)
          · exact q (void1 c_12)
        exact ⟨by rw [if_neg hA]; simp [c_19], rfl⟩
    · refine go_bipush (-2) dX11_behind_15 (by decide) ?_
      refine go_ireturn dX11_behind_17 rfl rfl (Nat.le_of_ble_eq_true rfl) (Nat.le_of_ble_eq_true rfl) ?_
      have hA : x < 0 ∨ nI N.1 < x ∨ ¬ (y = 0 ∨ y = 1) := by
        first
          | exact (full_t2 c_5).elim Or.inl (fun h => Or.inr (Or.inl h))
          | exact Or.inr (Or.inr (void0 c_12))
      exact ⟨by rw [if_pos hA], rfl⟩
set_option maxRecDepth 100000 in
theorem ev_X11_worst (t0 t1 : TX) (G N : TG) (T : TT) (C D : TC) (P : TP) (S : TS) (H0 H1 H2 H3 : TH) (ta : Nat → Int32) (lf : Int32) (hC : C.1 = nI N.1) (hN : N.1 ≤ 12) : Ev MX11_worst [.ref 0] (cwd t0 t1 G N T C D P S H0 H1 H2 H3 ta lf) (Ri (cwd t0 t1 G N T C D P S H0 H1 H2 H3 ta lf) (fwI C.2.2.2.2.1 N.1).1) := by
  refine ev_of bX11_worst [some (.ref 0)] (Nat.le_of_ble_eq_true rfl) rfl ?_
  obtain ⟨c1, C⟩ := C
  dsimp only at hC
  subst hC
  refine go_aload_n dX11_worst_0 rfl ?_
  refine go_getf fX11_45 dX11_worst_1 rfl rfl ?_
  refine go_callVi (z := MX0_fewestSixteenths) [10, 11, 12, 13, 14, 15, 16, 17] dX11_worst_4 lX11_177 sX0_fewestSixteenths (ev_X0_fewestSixteenths _ _ _ _ _ _ _ _ _ N.1 hN) rfl rfl rfl rfl rfl ⟨_, _, rfl⟩ rfl rfl ?_
  refine go_ireturn dX11_worst_7 rfl rfl (Nat.le_of_ble_eq_true rfl) (Nat.le_of_ble_eq_true rfl) ?_
  exact ⟨rfl, rfl⟩
set_option maxRecDepth 100000 in
theorem ev_X11_fate (t0 t1 : TX) (G N : TG) (T : TT) (C D : TC) (P : TP) (S : TS) (H0 H1 H2 H3 : TH) (ta : Nat → Int32) (lf : Int32) (x : Int32) : Ev MX11_fate [.ref 0, .int x] (cwd t0 t1 G N T C D P S H0 H1 H2 H3 ta lf) (Ri (cwd t0 t1 G N T C D P S H0 H1 H2 H3 ta lf) (if x < 0 ∨ nI G.1 ≤ x then -2 else if x < 0 ∨ 8 ≤ x then -1 else C.2.2.2.2.2.2.2.2.2 x.toNatClampNeg)) := by
  refine ev_of bX11_fate [some (.ref 0), some (.int x)] (Nat.le_of_ble_eq_true rfl) rfl ?_
  refine go_aload_n dX11_fate_0 rfl ?_
  refine go_getf fX11_24 dX11_fate_1 rfl rfl ?_
  refine go_iload_n dX11_fate_4 rfl ?_
  refine go_callVi (z := MX2_has) [5, 6] dX11_fate_5 lX11_113 sX2_has (ev_X2_has _ _ _ _) rfl rfl rfl rfl rfl ⟨_, _, rfl⟩ rfl rfl ?_
  refine go_if_ne 14 dX11_fate_8 (by decide) (fun c_8 => ?_) (fun c_8 => ?_)
  · refine go_aload_n dX11_fate_14 rfl ?_
    refine go_getf fX11_45 dX11_fate_15 rfl rfl ?_
    refine go_iload_n dX11_fate_18 rfl ?_
    refine go_callVi (z := MX0_fateOf) [10, 11, 12, 13, 14, 15, 16, 17] dX11_fate_19 lX11_181 sX0_fateOf (ev_X0_fateOf _ _ _ _ _ _ _ _ _ _ _) rfl rfl rfl rfl rfl ⟨_, _, rfl⟩ rfl rfl ?_
    refine go_ireturn dX11_fate_22 rfl rfl (Nat.le_of_ble_eq_true rfl) (Nat.le_of_ble_eq_true rfl) ?_
    exact ⟨by rw [if_neg (full_t3 c_8)], rfl⟩
  · refine go_bipush (-2) dX11_fate_11 (by decide) ?_
    refine go_ireturn dX11_fate_13 rfl rfl (Nat.le_of_ble_eq_true rfl) (Nat.le_of_ble_eq_true rfl) ?_
    exact ⟨by rw [if_pos (full_t2 c_8)], rfl⟩
set_option maxRecDepth 100000 in
theorem ev_X11_seen (t0 t1 : TX) (G N : TG) (T : TT) (C D : TC) (P : TP) (S : TS) (H0 H1 H2 H3 : TH) (ta : Nat → Int32) (lf : Int32) (x y : Int32) (hS : S.1 ≤ 8) : Ev MX11_seen [.ref 0, .int x, .int y] (cwd t0 t1 G N T C D P S H0 H1 H2 H3 ta lf) (fun v w => (x < 0 ∨ 8 ≤ x ∨ y < 0 ∨ 5 ≤ y) ∧ v = some (.int (-2)) ∧ w = (cwd t0 t1 G N T C D P S H0 H1 H2 H3 ta lf) ∨ ¬ (x < 0 ∨ 8 ≤ x ∨ y < 0 ∨ 5 ≤ y) ∧ S.1 = 8 ∧ v = some (.int (-4)) ∧ w = (cwd t0 t1 G N T C D P S H0 H1 H2 H3 ta lf) ∨ ¬ (x < 0 ∨ 8 ≤ x ∨ y < 0 ∨ 5 ≤ y) ∧ S.1 < 8 ∧ v = some (.int (nI (S.1 + 1))) ∧ w = (cwd t0 t1 G N T C D P (S.1 + 1, upd S.2.1 S.1 x, upd S.2.2 S.1 y) H0 H1 H2 H3 ta lf)) := by
  refine ev_of bX11_seen [some (.ref 0), some (.int x), some (.int y)] (Nat.le_of_ble_eq_true rfl) rfl ?_
  refine go_iload_n dX11_seen_0 rfl ?_
  refine go_iload_n dX11_seen_1 rfl ?_
  refine go_callSi (z := MX7_allows) [] dX11_seen_2 lX11_210 sX7_allows (ev_X7_allows x y) rfl rfl rfl rfl rfl rfl ?_
  refine go_if_ne 11 dX11_seen_5 (by decide) (fun c_5 => ?_) (fun c_5 => ?_)
  · refine go_aload_n dX11_seen_11 rfl ?_
    refine go_getf fX11_62 dX11_seen_12 rfl rfl ?_
    refine go_callVi (z := MX7_isFull) [31, 32, 33] dX11_seen_15 lX11_211 sX7_isFull (ev_X7_isFull _ _ _) rfl rfl rfl rfl rfl ⟨_, _, rfl⟩ rfl rfl ?_
    refine go_if_eq 24 dX11_seen_18 (by decide) (fun c_18 => ?_) (fun c_18 => ?_)
    · have hS8 : S.1 < 8 := Nat.lt_of_not_le fun q => full_f c_18 (nI_le (a := 8) q (by omega))
      refine go_aload_n dX11_seen_24 rfl ?_
      refine go_getf fX11_62 dX11_seen_25 rfl rfl ?_
      refine go_iload_n dX11_seen_28 rfl ?_
      refine go_iload_n dX11_seen_29 rfl ?_
      refine go_callVw (z := MX7_add) [31, 32, 33] _ dX11_seen_30 lX11_212 sX7_add (ev_X7_add S.1 hS8 x y _ _) rfl rfl rfl rfl rfl ⟨_, _, rfl⟩ rfl rfl rfl rfl ?_
      refine go_aload_n dX11_seen_33 rfl ?_
      refine go_getf fX11_62 dX11_seen_34 rfl rfl ?_
      refine go_getf fX11_215 dX11_seen_37 rfl rfl ?_
      refine go_ireturn dX11_seen_40 rfl rfl (Nat.le_of_ble_eq_true rfl) (Nat.le_of_ble_eq_true rfl) ?_
      exact Or.inr (Or.inr ⟨full_t3 c_5, hS8, rfl, rfl⟩)
    · refine go_bipush (-4) dX11_seen_21 (by decide) ?_
      refine go_ireturn dX11_seen_23 rfl rfl (Nat.le_of_ble_eq_true rfl) (Nat.le_of_ble_eq_true rfl) ?_
      exact Or.inr (Or.inl ⟨full_t3 c_5, eight_of c_18 hS, rfl, rfl⟩)
  · refine go_bipush (-2) dX11_seen_8 (by decide) ?_
    refine go_ireturn dX11_seen_10 rfl rfl (Nat.le_of_ble_eq_true rfl) (Nat.le_of_ble_eq_true rfl) ?_
    exact Or.inl ⟨full_t2 c_5, rfl, rfl⟩
set_option maxRecDepth 100000 in
theorem ev_X11_forget (t0 t1 : TX) (G N : TG) (T : TT) (C D : TC) (P : TP) (S : TS) (H0 H1 H2 H3 : TH) (ta : Nat → Int32) (lf : Int32) : Ev MX11_forget [.ref 0] (cwd t0 t1 G N T C D P S H0 H1 H2 H3 ta lf) (Rw (some (.int (nI S.1))) (cwd t0 t1 G N T C D P (0, S.2.1, S.2.2) H0 H1 H2 H3 ta lf)) := by
  refine ev_of bX11_forget [some (.ref 0), none] (Nat.le_of_ble_eq_true rfl) rfl ?_
  refine go_aload_n dX11_forget_0 rfl ?_
  refine go_getf fX11_62 dX11_forget_1 rfl rfl ?_
  refine go_getf fX11_215 dX11_forget_4 rfl rfl ?_
  refine go_istore_n dX11_forget_7 (by decide) ?_
  refine go_aload_n dX11_forget_8 rfl ?_
  refine go_getf fX11_62 dX11_forget_9 rfl rfl ?_
  refine go_iconst (0) dX11_forget_12 (by decide) ?_
  refine go_putf fX11_215 dX11_forget_13 rfl (fun _ _ _ h => by cases h; rfl) (fun _ => rfl) (fun _ => rfl) (Nat.le_of_ble_eq_true rfl) ?_
  refine go_iload_n dX11_forget_16 rfl ?_
  refine go_ireturn dX11_forget_17 rfl rfl (Nat.le_of_ble_eq_true rfl) (Nat.le_of_ble_eq_true rfl) ?_
  exact ⟨rfl, rfl⟩
