/-- what a reading takes: place 2i of a row of k, into the sightings -/
def rdS (row : Nat → Int32) (k : Nat) : Nat → Nat → TS → Nat × TS
  | 0, i, S => (i, S)
  | d + 1, i, S => if ¬ 2 * i + 1 < k ∨ (row (2 * i) < 0 ∨ 8 ≤ row (2 * i) ∨ row (2 * i + 1) < 0 ∨ 5 ≤ row (2 * i + 1)) ∨ ¬ S.1 < 8 then (i, S) else rdS row k d (i + 1) (S.1 + 1, upd S.2.1 S.1 (row (2 * i)), upd S.2.2 S.1 (row (2 * i + 1)))
theorem rdS_end {row : Nat → Int32} {k : Nat} : ∀ {d i : Nat} {S : TS}, (¬ 2 * i + 1 < k ∨ (row (2 * i) < 0 ∨ 8 ≤ row (2 * i) ∨ row (2 * i + 1) < 0 ∨ 5 ≤ row (2 * i + 1)) ∨ ¬ S.1 < 8) → rdS row k d i S = (i, S)
  | 0, _, _, _ => rfl
  | _ + 1, _, _, h => if_pos h
theorem rdS_on {row : Nat → Int32} {k d i : Nat} {S : TS} (h : ¬ (¬ 2 * i + 1 < k ∨ (row (2 * i) < 0 ∨ 8 ≤ row (2 * i) ∨ row (2 * i + 1) < 0 ∨ 5 ≤ row (2 * i + 1)) ∨ ¬ S.1 < 8)) : rdS row k (d + 1) i S = rdS row k d (i + 1) (S.1 + 1, upd S.2.1 S.1 (row (2 * i)), upd S.2.2 S.1 (row (2 * i + 1))) := if_neg h
/-- what a writing lays -/
def wrR (form : Int32) (cm f : Nat → Int32) : Nat → Nat → Int32
  | 0 => f
  | i + 1 => upd (wrR form cm f i) i (cutI form (cm i))
theorem nI_min {a b : Nat} (ha : a < 2 ^ 31) (hb : b < 2 ^ 31) : (if nI b < nI a then nI b else nI a) = nI (min a b) := by
  by_cases h : b < a
  · rw [if_pos (nI_lt h ha), show min a b = b by omega]
  · rw [if_neg (fun q => h ((nI_ltI hb ha).mp q)), show min a b = a by omega]
theorem nI_sub {a k : Nat} (h : a ≤ k) : nI k - nI a = nI (k - a) := by
  rw [show nI k = nI (k - a) + nI a by rw [nI_add]; exact nI_e (by omega), Int32.add_sub_cancel]
theorem stretch_ok {i n : Int32} {k : Nat} (hk : k ≤ 60) (h : ¬ (i < 0 ∨ n < 0 ∨ nI k < i ∨ nI k - i < n)) : ¬ i < 0 ∧ ¬ n < 0 ∧ i.toNatClampNeg + n.toNatClampNeg ≤ 60 := by
  have h0 : ¬ i < 0 := fun q => h (Or.inl q)
  have h1 : ¬ n < 0 := fun q => h (Or.inr (Or.inl q))
  have h2 : ¬ nI k < i := fun q => h (Or.inr (Or.inr (Or.inl q)))
  have h3 : ¬ nI k - i < n := fun q => h (Or.inr (Or.inr (Or.inr q)))
  obtain ⟨e1, l1⟩ := in_range (x := i) (n := k + 1) h0 (fun q => h2 (lt_succ (by omega) q)) (by omega)
  rw [e1, nI_sub (by omega)] at h3
  obtain ⟨e2, l2⟩ := in_range (x := n) (n := k - i.toNatClampNeg + 1) h1 (fun q => h3 (lt_succ (by omega) q)) (by omega)
  exact ⟨h0, h1, by omega⟩
set_option maxRecDepth 100000 in
theorem ev_read0 (t0 t1 : TX) (G N : TG) (T : TT) (C D : TC) (P : TP) (S : TS) (H0 H1 H2 H3 : TH) (ta : Nat → Int32) (lf : Int32) (hz : H0.2.2.1 ≤ 60) (hS : S.1 ≤ 8) : Ev MX11_read [.ref 0, .int 0] (cwd t0 t1 G N T C D P S H0 H1 H2 H3 ta lf) (fun v w => ¬ H0.1 = 0 ∧ v = some (.int (-11)) ∧ w = (cwd t0 t1 G N T C D P S H0 H1 H2 H3 ta 1) ∨ H0.1 = 0 ∧ v = some (.int (nI (rdS H0.2.2.2 H0.2.2.1 31 0 S).1)) ∧ w = (cwd t0 t1 G N T C D P (rdS H0.2.2.2 H0.2.2.1 31 0 S).2 H0 H1 H2 H3 ta lf)) := by
  refine ev_of bX11_read [some (.ref 0), some (.int 0), none, none, none, none, none] (Nat.le_of_ble_eq_true rfl) rfl ?_
  refine go_iload_n dX11_read_0 rfl ?_
  refine go_callSi (z := MX11_isSheet) [] dX11_read_1 lX11_216 sX11_isSheet (ev_X11_isSheet _) rfl rfl rfl rfl rfl rfl ?_
  refine go_if_ne 10 dX11_read_4 (by decide) (fun _ => ?_) (fun c_4 => absurd c_4 (by decide))
  refine go_aload_n dX11_read_10 rfl ?_
  refine go_getf fX11_68 dX11_read_11 rfl rfl ?_
  refine go_iload_n dX11_read_14 rfl ?_
  refine go_aald dX11_read_15 rfl (vp_in_nI (n := 0) (by decide) (by decide)) rfl ?_
  refine go_astore_n dX11_read_16 (by decide) ?_
  refine go_aload_n dX11_read_17 rfl ?_
  refine go_getf fX11_219 dX11_read_18 rfl rfl ?_
  refine go_if_eq 30 dX11_read_21 (by decide) (fun c_21 => ?_) (fun c_21 => ?_)
  · refine go_iconst (0) dX11_read_30 (by decide) ?_
    refine go_istore_n dX11_read_31 (by decide) ?_
    refine go_iconst (0) dX11_read_32 (by decide) ?_
    refine go_istore dX11_read_33 (by decide) ?_
    suffices loop : ∀ (d i : Nat) (R : TS) (x5 x6 : Option Value), i + d = 31 → R.1 ≤ 8 → rdS H0.2.2.2 H0.2.2.1 d i R = (rdS H0.2.2.2 H0.2.2.1 31 0 S) → Go X0 MX11_read (fun v w => ¬ H0.1 = 0 ∧ v = some (.int (-11)) ∧ w = (cwd t0 t1 G N T C D P S H0 H1 H2 H3 ta 1) ∨ H0.1 = 0 ∧ v = some (.int (nI (rdS H0.2.2.2 H0.2.2.1 31 0 S).1)) ∧ w = (cwd t0 t1 G N T C D P (rdS H0.2.2.2 H0.2.2.1 31 0 S).2 H0 H1 H2 H3 ta lf)) 44 0 0 35 [some (.ref 0), some (.int 0), some (.ref 36), some (.int (nI i)), some (.int (nI (2 * i))), x5, x6] [] (cwd t0 t1 G N T C D P R H0 H1 H2 H3 ta lf) from loop 31 0 S _ _ (by omega) hS rfl
    intro d
    induction d with
    | zero =>
      intro i R x5 x6 hi hR he
      refine go_iload dX11_read_35 rfl ?_
      refine go_iconst (1) dX11_read_37 (by decide) ?_
      refine go_iadd dX11_read_38 ?_
      rw [nI_1]
      refine go_aload_n dX11_read_39 rfl ?_
      refine go_getf fX11_226 dX11_read_40 rfl rfl ?_
      refine go_icmp_ge 109 dX11_read_43 (by decide) (fun _ => ?_) (fun c_43 => absurd (nI_le (a := H0.2.2.1) (b := 2 * i + 1) (by omega) (by omega)) c_43)
      refine go_iload_n dX11_read_109 rfl ?_
      refine go_ireturn dX11_read_110 rfl rfl (Nat.le_of_ble_eq_true rfl) (Nat.le_of_ble_eq_true rfl) ?_
      rw [rdS_end (Or.inl (by omega))] at he
      exact Or.inr ⟨c_21, by rw [← he], by rw [← he]⟩
    | succ d ih =>
      intro i R x5 x6 hi hR he
      refine go_iload dX11_read_35 rfl ?_
      refine go_iconst (1) dX11_read_37 (by decide) ?_
      refine go_iadd dX11_read_38 ?_
      rw [nI_1]
      refine go_aload_n dX11_read_39 rfl ?_
      refine go_getf fX11_226 dX11_read_40 rfl rfl ?_
      refine go_icmp_ge 109 dX11_read_43 (by decide) (fun c_43 => ?_) (fun c_43 => ?_)
      · refine go_iload_n dX11_read_109 rfl ?_
        refine go_ireturn dX11_read_110 rfl rfl (Nat.le_of_ble_eq_true rfl) (Nat.le_of_ble_eq_true rfl) ?_
        rw [rdS_end (by
          first
          | exact Or.inl (fun q => absurd ((nI_leI (by omega) (by omega)).mp c_43) (by omega))
          | exact Or.inr (Or.inl (full_t2 c_73))
          | exact Or.inr (Or.inr (fun q => c_83 (if_pos (nI_lt q (by decide))))))] at he
        exact Or.inr ⟨c_21, by rw [← he], by rw [← he]⟩
      · have hk : 2 * i + 1 < H0.2.2.1 := Nat.lt_of_not_le fun q => c_43 (nI_le q (by omega))
        refine go_aload_n dX11_read_46 rfl ?_
        refine go_getf fX11_227 dX11_read_47 rfl rfl ?_
        refine go_iload dX11_read_50 rfl ?_
        refine go_iald dX11_read_52 rfl (vp_in_nI (n := 2 * i) (by omega) (by decide)) ?_
        simp only [nI_clamp (show 2 * i < 2 ^ 31 by omega)]
        refine go_istore dX11_read_53 (by decide) ?_
        refine go_aload_n dX11_read_55 rfl ?_
        refine go_getf fX11_227 dX11_read_56 rfl rfl ?_
        refine go_iload dX11_read_59 rfl ?_
        refine go_iconst (1) dX11_read_61 (by decide) ?_
        refine go_iadd dX11_read_62 ?_
        rw [nI_1]
        refine go_iald dX11_read_63 rfl (vp_in_nI (n := 2 * i + 1) (by omega) (by decide)) ?_
        simp only [nI_clamp (show 2 * i + 1 < 2 ^ 31 by omega)]
        refine go_istore dX11_read_64 (by decide) ?_
        refine go_iload dX11_read_66 rfl ?_
        refine go_iload dX11_read_68 rfl ?_
        refine go_callSi (z := MX7_allows) [] dX11_read_70 lX11_210 sX7_allows (ev_X7_allows _ _) rfl rfl rfl rfl rfl rfl ?_
        refine go_if_eq 109 dX11_read_73 (by decide) (fun c_73 => ?_) (fun c_73 => ?_)
        · refine go_iload_n dX11_read_109 rfl ?_
          refine go_ireturn dX11_read_110 rfl rfl (Nat.le_of_ble_eq_true rfl) (Nat.le_of_ble_eq_true rfl) ?_
          rw [rdS_end (by
            first
            | exact Or.inl (fun q => absurd ((nI_leI (by omega) (by omega)).mp c_43) (by omega))
            | exact Or.inr (Or.inl (full_t2 c_73))
            | exact Or.inr (Or.inr (fun q => c_83 (if_pos (nI_lt q (by decide))))))] at he
          exact Or.inr ⟨c_21, by rw [← he], by rw [← he]⟩
        · refine go_aload_n dX11_read_76 rfl ?_
          refine go_getf fX11_62 dX11_read_77 rfl rfl ?_
          refine go_callVi (z := MX7_isFull) [31, 32, 33] dX11_read_80 lX11_211 sX7_isFull (ev_X7_isFull _ _ _) rfl rfl rfl rfl rfl ⟨_, _, rfl⟩ rfl rfl ?_
          refine go_if_eq 89 dX11_read_83 (by decide) (fun c_83 => ?_) (fun c_83 => ?_)
          · have hS8 : R.1 < 8 := Nat.lt_of_not_le fun q => full_f c_83 (nI_le (a := 8) q (by omega))
            refine go_aload_n dX11_read_89 rfl ?_
            refine go_getf fX11_62 dX11_read_90 rfl rfl ?_
            refine go_iload dX11_read_93 rfl ?_
            refine go_iload dX11_read_95 rfl ?_
            refine go_callVw (z := MX7_add) [31, 32, 33] _ dX11_read_97 lX11_212 sX7_add (ev_X7_add R.1 hS8 _ _ _ _) rfl rfl rfl rfl rfl ⟨_, _, rfl⟩ rfl rfl rfl rfl ?_
            refine go_iincN (1) dX11_read_100 rfl (by decide) (by decide) ?_
            refine go_iincN (2) dX11_read_103 rfl (by decide) (by decide) ?_
            refine go_goto 35 dX11_read_106 (by decide) ?_
            rw [nI_1, show nI (2 * i) + 2 = nI (2 * (i + 1)) by rw [show (2 : Int32) = nI 2 from rfl, nI_add]; exact nI_e (by omega)]
            exact ih (i + 1) (R.1 + 1, upd R.2.1 R.1 _, upd R.2.2 R.1 _) _ _ (by omega) (by show R.1 + 1 ≤ 8; omega) ((rdS_on (fun q => q.elim (fun q => q hk) (fun q => q.elim (full_t3 c_73) (fun q => q hS8)))).symm.trans he)
          · refine go_goto 109 dX11_read_86 (by decide) ?_
            refine go_iload_n dX11_read_109 rfl ?_
            refine go_ireturn dX11_read_110 rfl rfl (Nat.le_of_ble_eq_true rfl) (Nat.le_of_ble_eq_true rfl) ?_
            rw [rdS_end (by
              first
              | exact Or.inl (fun q => absurd ((nI_leI (by omega) (by omega)).mp c_43) (by omega))
              | exact Or.inr (Or.inl (full_t2 c_73))
              | exact Or.inr (Or.inr (fun q => c_83 (if_pos (nI_lt q (by decide))))))] at he
            exact Or.inr ⟨c_21, by rw [← he], by rw [← he]⟩
  · refine go_aload_n dX11_read_24 rfl ?_
    refine go_iconst (1) dX11_read_25 (by decide) ?_
    refine go_callVsw (z := MX11_finding) dX11_read_26 lX11_223 sX11_finding (ev_X11_finding t0 t1 G N T C D P S H0 H1 H2 H3 ta lf (1)) rfl rfl rfl ⟨_, _, rfl⟩ rfl rfl rfl ?_
    refine go_ireturn dX11_read_29 rfl rfl (Nat.le_of_ble_eq_true rfl) (Nat.le_of_ble_eq_true rfl) ?_
    exact Or.inl ⟨c_21, rfl, rfl⟩
set_option maxRecDepth 100000 in
theorem ev_write0 (t0 t1 : TX) (G N : TG) (T : TT) (C D : TC) (P : TP) (S : TS) (H0 H1 H2 H3 : TH) (ta : Nat → Int32) (lf : Int32) (hz : H0.2.2.1 ≤ 60) (hN : N.1 ≤ 12) : Ev MX11_write [.ref 0, .int 0] (cwd t0 t1 G N T C D P S H0 H1 H2 H3 ta lf) (fun v w => ¬ H0.1 = 0 ∧ v = some (.int (-11)) ∧ w = (cwd t0 t1 G N T C D P S H0 H1 H2 H3 ta 1) ∨ H0.1 = 0 ∧ v = some (.int (nI (min H0.2.2.1 N.1))) ∧ w = (cwd t0 t1 G N T C D P S (H0.1, H0.2.1, H0.2.2.1, wrR H0.2.1 C.2.2.2.1 H0.2.2.2 (min H0.2.2.1 N.1)) H1 H2 H3 ta lf)) := by
  refine ev_of bX11_write [some (.ref 0), some (.int 0), none, none, none] (Nat.le_of_ble_eq_true rfl) rfl ?_
  refine go_iload_n dX11_write_0 rfl ?_
  refine go_callSi (z := MX11_isSheet) [] dX11_write_1 lX11_216 sX11_isSheet (ev_X11_isSheet _) rfl rfl rfl rfl rfl rfl ?_
  refine go_if_ne 10 dX11_write_4 (by decide) (fun _ => ?_) (fun c_4 => absurd c_4 (by decide))
  refine go_aload_n dX11_write_10 rfl ?_
  refine go_getf fX11_68 dX11_write_11 rfl rfl ?_
  refine go_iload_n dX11_write_14 rfl ?_
  refine go_aald dX11_write_15 rfl (vp_in_nI (n := 0) (by decide) (by decide)) rfl ?_
  refine go_astore_n dX11_write_16 (by decide) ?_
  refine go_aload_n dX11_write_17 rfl ?_
  refine go_getf fX11_219 dX11_write_18 rfl rfl ?_
  refine go_if_eq 30 dX11_write_21 (by decide) (fun c_21 => ?_) (fun c_21 => ?_)
  · refine go_aload_n dX11_write_30 rfl ?_
    refine go_getf fX11_226 dX11_write_31 rfl rfl ?_
    refine go_aload_n dX11_write_34 rfl ?_
    refine go_getf fX11_31 dX11_write_35 rfl rfl ?_
    refine go_getf fX11_134 dX11_write_38 rfl rfl ?_
    refine go_min dX11_write_41 lX11_284 (Nat.le_of_ble_eq_true rfl) (Nat.le_of_ble_eq_true rfl) (Nat.le_of_ble_eq_true rfl) (Nat.le_of_ble_eq_true rfl) ?_
    rw [nI_min (by omega) (by omega)]
    refine go_istore_n dX11_write_44 (by decide) ?_
    refine go_iconst (0) dX11_write_45 (by decide) ?_
    refine go_istore dX11_write_46 (by decide) ?_
    suffices loop : ∀ (d i : Nat), i + d = (min H0.2.2.1 N.1) → Go X0 MX11_write (fun v w => ¬ H0.1 = 0 ∧ v = some (.int (-11)) ∧ w = (cwd t0 t1 G N T C D P S H0 H1 H2 H3 ta 1) ∨ H0.1 = 0 ∧ v = some (.int (nI (min H0.2.2.1 N.1))) ∧ w = (cwd t0 t1 G N T C D P S (H0.1, H0.2.1, H0.2.2.1, wrR H0.2.1 C.2.2.2.1 H0.2.2.2 (min H0.2.2.1 N.1)) H1 H2 H3 ta lf)) 44 0 0 48 [some (.ref 0), some (.int 0), some (.ref 36), some (.int (nI (min H0.2.2.1 N.1))), some (.int (nI i))] [] (cwd t0 t1 G N T C D P S (H0.1, H0.2.1, H0.2.2.1, wrR H0.2.1 C.2.2.2.1 H0.2.2.2 i) H1 H2 H3 ta lf) from loop (min H0.2.2.1 N.1) 0 (by omega)
    intro d
    induction d with
    | zero =>
      intro i hi
      obtain rfl : i = (min H0.2.2.1 N.1) := by omega
      refine go_iload dX11_write_48 rfl ?_
      refine go_iload_n dX11_write_50 rfl ?_
      refine go_icmp_ge 76 dX11_write_51 (by decide) (fun _ => ?_) (fun c_51 => absurd (Int32.le_refl _) c_51)
      refine go_iload_n dX11_write_76 rfl ?_
      refine go_ireturn dX11_write_77 rfl rfl (Nat.le_of_ble_eq_true rfl) (Nat.le_of_ble_eq_true rfl) ?_
      exact Or.inr ⟨c_21, rfl, rfl⟩
    | succ d ih =>
      intro i hi
      refine go_iload dX11_write_48 rfl ?_
      refine go_iload_n dX11_write_50 rfl ?_
      refine go_icmp_ge 76 dX11_write_51 (by decide) (fun c_51 => absurd c_51 (nI_ge (by omega) (by omega))) (fun _ => ?_)
      refine go_aload_n dX11_write_54 rfl ?_
      refine go_iload dX11_write_55 rfl ?_
      refine go_aload_n dX11_write_57 rfl ?_
      refine go_getf fX11_45 dX11_write_58 rfl rfl ?_
      refine go_getf fX11_138 dX11_write_61 rfl rfl ?_
      refine go_iload dX11_write_64 rfl ?_
      refine go_iald dX11_write_66 rfl (vp_in_nI (by omega) (by decide)) ?_
      simp only [nI_clamp (show i < 2 ^ 31 by omega)]
      refine go_callVw (z := MX6_put) [36, 37] _ dX11_write_67 lX11_265 sX6_put (ev_X6_put _ _ _ i H0.2.2.1 (by omega) hz _) rfl rfl rfl rfl rfl ⟨_, _, rfl⟩ rfl rfl rfl rfl ?_
      refine go_iincN (1) dX11_write_70 rfl (by decide) (by decide) ?_
      refine go_goto 48 dX11_write_73 (by decide) ?_
      rw [nI_1]
      exact ih (i + 1) (by omega)
  · refine go_aload_n dX11_write_24 rfl ?_
    refine go_iconst (1) dX11_write_25 (by decide) ?_
    refine go_callVsw (z := MX11_finding) dX11_write_26 lX11_223 sX11_finding (ev_X11_finding t0 t1 G N T C D P S H0 H1 H2 H3 ta lf (1)) rfl rfl rfl ⟨_, _, rfl⟩ rfl rfl rfl ?_
    refine go_ireturn dX11_write_29 rfl rfl (Nat.le_of_ble_eq_true rfl) (Nat.le_of_ble_eq_true rfl) ?_
    exact Or.inl ⟨c_21, rfl, rfl⟩
set_option maxRecDepth 100000 in
theorem ev_read1 (t0 t1 : TX) (G N : TG) (T : TT) (C D : TC) (P : TP) (S : TS) (H0 H1 H2 H3 : TH) (ta : Nat → Int32) (lf : Int32) (hz : H1.2.2.1 ≤ 60) (hS : S.1 ≤ 8) : Ev MX11_read [.ref 0, .int 1] (cwd t0 t1 G N T C D P S H0 H1 H2 H3 ta lf) (fun v w => ¬ H1.1 = 0 ∧ v = some (.int (-11)) ∧ w = (cwd t0 t1 G N T C D P S H0 H1 H2 H3 ta 1) ∨ H1.1 = 0 ∧ v = some (.int (nI (rdS H1.2.2.2 H1.2.2.1 31 0 S).1)) ∧ w = (cwd t0 t1 G N T C D P (rdS H1.2.2.2 H1.2.2.1 31 0 S).2 H0 H1 H2 H3 ta lf)) := by
  refine ev_of bX11_read [some (.ref 0), some (.int 1), none, none, none, none, none] (Nat.le_of_ble_eq_true rfl) rfl ?_
  refine go_iload_n dX11_read_0 rfl ?_
  refine go_callSi (z := MX11_isSheet) [] dX11_read_1 lX11_216 sX11_isSheet (ev_X11_isSheet _) rfl rfl rfl rfl rfl rfl ?_
  refine go_if_ne 10 dX11_read_4 (by decide) (fun _ => ?_) (fun c_4 => absurd c_4 (by decide))
  refine go_aload_n dX11_read_10 rfl ?_
  refine go_getf fX11_68 dX11_read_11 rfl rfl ?_
  refine go_iload_n dX11_read_14 rfl ?_
  refine go_aald dX11_read_15 rfl (vp_in_nI (n := 1) (by decide) (by decide)) rfl ?_
  refine go_astore_n dX11_read_16 (by decide) ?_
  refine go_aload_n dX11_read_17 rfl ?_
  refine go_getf fX11_219 dX11_read_18 rfl rfl ?_
  refine go_if_eq 30 dX11_read_21 (by decide) (fun c_21 => ?_) (fun c_21 => ?_)
  · refine go_iconst (0) dX11_read_30 (by decide) ?_
    refine go_istore_n dX11_read_31 (by decide) ?_
    refine go_iconst (0) dX11_read_32 (by decide) ?_
    refine go_istore dX11_read_33 (by decide) ?_
    suffices loop : ∀ (d i : Nat) (R : TS) (x5 x6 : Option Value), i + d = 31 → R.1 ≤ 8 → rdS H1.2.2.2 H1.2.2.1 d i R = (rdS H1.2.2.2 H1.2.2.1 31 0 S) → Go X0 MX11_read (fun v w => ¬ H1.1 = 0 ∧ v = some (.int (-11)) ∧ w = (cwd t0 t1 G N T C D P S H0 H1 H2 H3 ta 1) ∨ H1.1 = 0 ∧ v = some (.int (nI (rdS H1.2.2.2 H1.2.2.1 31 0 S).1)) ∧ w = (cwd t0 t1 G N T C D P (rdS H1.2.2.2 H1.2.2.1 31 0 S).2 H0 H1 H2 H3 ta lf)) 44 0 0 35 [some (.ref 0), some (.int 1), some (.ref 38), some (.int (nI i)), some (.int (nI (2 * i))), x5, x6] [] (cwd t0 t1 G N T C D P R H0 H1 H2 H3 ta lf) from loop 31 0 S _ _ (by omega) hS rfl
    intro d
    induction d with
    | zero =>
      intro i R x5 x6 hi hR he
      refine go_iload dX11_read_35 rfl ?_
      refine go_iconst (1) dX11_read_37 (by decide) ?_
      refine go_iadd dX11_read_38 ?_
      rw [nI_1]
      refine go_aload_n dX11_read_39 rfl ?_
      refine go_getf fX11_226 dX11_read_40 rfl rfl ?_
      refine go_icmp_ge 109 dX11_read_43 (by decide) (fun _ => ?_) (fun c_43 => absurd (nI_le (a := H1.2.2.1) (b := 2 * i + 1) (by omega) (by omega)) c_43)
      refine go_iload_n dX11_read_109 rfl ?_
      refine go_ireturn dX11_read_110 rfl rfl (Nat.le_of_ble_eq_true rfl) (Nat.le_of_ble_eq_true rfl) ?_
      rw [rdS_end (Or.inl (by omega))] at he
      exact Or.inr ⟨c_21, by rw [← he], by rw [← he]⟩
    | succ d ih =>
      intro i R x5 x6 hi hR he
      refine go_iload dX11_read_35 rfl ?_
      refine go_iconst (1) dX11_read_37 (by decide) ?_
      refine go_iadd dX11_read_38 ?_
      rw [nI_1]
      refine go_aload_n dX11_read_39 rfl ?_
      refine go_getf fX11_226 dX11_read_40 rfl rfl ?_
      refine go_icmp_ge 109 dX11_read_43 (by decide) (fun c_43 => ?_) (fun c_43 => ?_)
      · refine go_iload_n dX11_read_109 rfl ?_
        refine go_ireturn dX11_read_110 rfl rfl (Nat.le_of_ble_eq_true rfl) (Nat.le_of_ble_eq_true rfl) ?_
        rw [rdS_end (by
          first
          | exact Or.inl (fun q => absurd ((nI_leI (by omega) (by omega)).mp c_43) (by omega))
          | exact Or.inr (Or.inl (full_t2 c_73))
          | exact Or.inr (Or.inr (fun q => c_83 (if_pos (nI_lt q (by decide))))))] at he
        exact Or.inr ⟨c_21, by rw [← he], by rw [← he]⟩
      · have hk : 2 * i + 1 < H1.2.2.1 := Nat.lt_of_not_le fun q => c_43 (nI_le q (by omega))
        refine go_aload_n dX11_read_46 rfl ?_
        refine go_getf fX11_227 dX11_read_47 rfl rfl ?_
        refine go_iload dX11_read_50 rfl ?_
        refine go_iald dX11_read_52 rfl (vp_in_nI (n := 2 * i) (by omega) (by decide)) ?_
        simp only [nI_clamp (show 2 * i < 2 ^ 31 by omega)]
        refine go_istore dX11_read_53 (by decide) ?_
        refine go_aload_n dX11_read_55 rfl ?_
        refine go_getf fX11_227 dX11_read_56 rfl rfl ?_
        refine go_iload dX11_read_59 rfl ?_
        refine go_iconst (1) dX11_read_61 (by decide) ?_
        refine go_iadd dX11_read_62 ?_
        rw [nI_1]
        refine go_iald dX11_read_63 rfl (vp_in_nI (n := 2 * i + 1) (by omega) (by decide)) ?_
        simp only [nI_clamp (show 2 * i + 1 < 2 ^ 31 by omega)]
        refine go_istore dX11_read_64 (by decide) ?_
        refine go_iload dX11_read_66 rfl ?_
        refine go_iload dX11_read_68 rfl ?_
        refine go_callSi (z := MX7_allows) [] dX11_read_70 lX11_210 sX7_allows (ev_X7_allows _ _) rfl rfl rfl rfl rfl rfl ?_
        refine go_if_eq 109 dX11_read_73 (by decide) (fun c_73 => ?_) (fun c_73 => ?_)
        · refine go_iload_n dX11_read_109 rfl ?_
          refine go_ireturn dX11_read_110 rfl rfl (Nat.le_of_ble_eq_true rfl) (Nat.le_of_ble_eq_true rfl) ?_
          rw [rdS_end (by
            first
            | exact Or.inl (fun q => absurd ((nI_leI (by omega) (by omega)).mp c_43) (by omega))
            | exact Or.inr (Or.inl (full_t2 c_73))
            | exact Or.inr (Or.inr (fun q => c_83 (if_pos (nI_lt q (by decide))))))] at he
          exact Or.inr ⟨c_21, by rw [← he], by rw [← he]⟩
        · refine go_aload_n dX11_read_76 rfl ?_
          refine go_getf fX11_62 dX11_read_77 rfl rfl ?_
          refine go_callVi (z := MX7_isFull) [31, 32, 33] dX11_read_80 lX11_211 sX7_isFull (ev_X7_isFull _ _ _) rfl rfl rfl rfl rfl ⟨_, _, rfl⟩ rfl rfl ?_
          refine go_if_eq 89 dX11_read_83 (by decide) (fun c_83 => ?_) (fun c_83 => ?_)
          · have hS8 : R.1 < 8 := Nat.lt_of_not_le fun q => full_f c_83 (nI_le (a := 8) q (by omega))
            refine go_aload_n dX11_read_89 rfl ?_
            refine go_getf fX11_62 dX11_read_90 rfl rfl ?_
            refine go_iload dX11_read_93 rfl ?_
            refine go_iload dX11_read_95 rfl ?_
            refine go_callVw (z := MX7_add) [31, 32, 33] _ dX11_read_97 lX11_212 sX7_add (ev_X7_add R.1 hS8 _ _ _ _) rfl rfl rfl rfl rfl ⟨_, _, rfl⟩ rfl rfl rfl rfl ?_
            refine go_iincN (1) dX11_read_100 rfl (by decide) (by decide) ?_
            refine go_iincN (2) dX11_read_103 rfl (by decide) (by decide) ?_
            refine go_goto 35 dX11_read_106 (by decide) ?_
            rw [nI_1, show nI (2 * i) + 2 = nI (2 * (i + 1)) by rw [show (2 : Int32) = nI 2 from rfl, nI_add]; exact nI_e (by omega)]
            exact ih (i + 1) (R.1 + 1, upd R.2.1 R.1 _, upd R.2.2 R.1 _) _ _ (by omega) (by show R.1 + 1 ≤ 8; omega) ((rdS_on (fun q => q.elim (fun q => q hk) (fun q => q.elim (full_t3 c_73) (fun q => q hS8)))).symm.trans he)
          · refine go_goto 109 dX11_read_86 (by decide) ?_
            refine go_iload_n dX11_read_109 rfl ?_
            refine go_ireturn dX11_read_110 rfl rfl (Nat.le_of_ble_eq_true rfl) (Nat.le_of_ble_eq_true rfl) ?_
            rw [rdS_end (by
              first
              | exact Or.inl (fun q => absurd ((nI_leI (by omega) (by omega)).mp c_43) (by omega))
              | exact Or.inr (Or.inl (full_t2 c_73))
              | exact Or.inr (Or.inr (fun q => c_83 (if_pos (nI_lt q (by decide))))))] at he
            exact Or.inr ⟨c_21, by rw [← he], by rw [← he]⟩
  · refine go_aload_n dX11_read_24 rfl ?_
    refine go_iconst (1) dX11_read_25 (by decide) ?_
    refine go_callVsw (z := MX11_finding) dX11_read_26 lX11_223 sX11_finding (ev_X11_finding t0 t1 G N T C D P S H0 H1 H2 H3 ta lf (1)) rfl rfl rfl ⟨_, _, rfl⟩ rfl rfl rfl ?_
    refine go_ireturn dX11_read_29 rfl rfl (Nat.le_of_ble_eq_true rfl) (Nat.le_of_ble_eq_true rfl) ?_
    exact Or.inl ⟨c_21, rfl, rfl⟩
set_option maxRecDepth 100000 in
theorem ev_write1 (t0 t1 : TX) (G N : TG) (T : TT) (C D : TC) (P : TP) (S : TS) (H0 H1 H2 H3 : TH) (ta : Nat → Int32) (lf : Int32) (hz : H1.2.2.1 ≤ 60) (hN : N.1 ≤ 12) : Ev MX11_write [.ref 0, .int 1] (cwd t0 t1 G N T C D P S H0 H1 H2 H3 ta lf) (fun v w => ¬ H1.1 = 0 ∧ v = some (.int (-11)) ∧ w = (cwd t0 t1 G N T C D P S H0 H1 H2 H3 ta 1) ∨ H1.1 = 0 ∧ v = some (.int (nI (min H1.2.2.1 N.1))) ∧ w = (cwd t0 t1 G N T C D P S H0 (H1.1, H1.2.1, H1.2.2.1, wrR H1.2.1 C.2.2.2.1 H1.2.2.2 (min H1.2.2.1 N.1)) H2 H3 ta lf)) := by
  refine ev_of bX11_write [some (.ref 0), some (.int 1), none, none, none] (Nat.le_of_ble_eq_true rfl) rfl ?_
  refine go_iload_n dX11_write_0 rfl ?_
  refine go_callSi (z := MX11_isSheet) [] dX11_write_1 lX11_216 sX11_isSheet (ev_X11_isSheet _) rfl rfl rfl rfl rfl rfl ?_
  refine go_if_ne 10 dX11_write_4 (by decide) (fun _ => ?_) (fun c_4 => absurd c_4 (by decide))
  refine go_aload_n dX11_write_10 rfl ?_
  refine go_getf fX11_68 dX11_write_11 rfl rfl ?_
  refine go_iload_n dX11_write_14 rfl ?_
  refine go_aald dX11_write_15 rfl (vp_in_nI (n := 1) (by decide) (by decide)) rfl ?_
  refine go_astore_n dX11_write_16 (by decide) ?_
  refine go_aload_n dX11_write_17 rfl ?_
  refine go_getf fX11_219 dX11_write_18 rfl rfl ?_
  refine go_if_eq 30 dX11_write_21 (by decide) (fun c_21 => ?_) (fun c_21 => ?_)
  · refine go_aload_n dX11_write_30 rfl ?_
    refine go_getf fX11_226 dX11_write_31 rfl rfl ?_
    refine go_aload_n dX11_write_34 rfl ?_
    refine go_getf fX11_31 dX11_write_35 rfl rfl ?_
    refine go_getf fX11_134 dX11_write_38 rfl rfl ?_
    refine go_min dX11_write_41 lX11_284 (Nat.le_of_ble_eq_true rfl) (Nat.le_of_ble_eq_true rfl) (Nat.le_of_ble_eq_true rfl) (Nat.le_of_ble_eq_true rfl) ?_
    rw [nI_min (by omega) (by omega)]
    refine go_istore_n dX11_write_44 (by decide) ?_
    refine go_iconst (0) dX11_write_45 (by decide) ?_
    refine go_istore dX11_write_46 (by decide) ?_
    suffices loop : ∀ (d i : Nat), i + d = (min H1.2.2.1 N.1) → Go X0 MX11_write (fun v w => ¬ H1.1 = 0 ∧ v = some (.int (-11)) ∧ w = (cwd t0 t1 G N T C D P S H0 H1 H2 H3 ta 1) ∨ H1.1 = 0 ∧ v = some (.int (nI (min H1.2.2.1 N.1))) ∧ w = (cwd t0 t1 G N T C D P S H0 (H1.1, H1.2.1, H1.2.2.1, wrR H1.2.1 C.2.2.2.1 H1.2.2.2 (min H1.2.2.1 N.1)) H2 H3 ta lf)) 44 0 0 48 [some (.ref 0), some (.int 1), some (.ref 38), some (.int (nI (min H1.2.2.1 N.1))), some (.int (nI i))] [] (cwd t0 t1 G N T C D P S H0 (H1.1, H1.2.1, H1.2.2.1, wrR H1.2.1 C.2.2.2.1 H1.2.2.2 i) H2 H3 ta lf) from loop (min H1.2.2.1 N.1) 0 (by omega)
    intro d
    induction d with
    | zero =>
      intro i hi
      obtain rfl : i = (min H1.2.2.1 N.1) := by omega
      refine go_iload dX11_write_48 rfl ?_
      refine go_iload_n dX11_write_50 rfl ?_
      refine go_icmp_ge 76 dX11_write_51 (by decide) (fun _ => ?_) (fun c_51 => absurd (Int32.le_refl _) c_51)
      refine go_iload_n dX11_write_76 rfl ?_
      refine go_ireturn dX11_write_77 rfl rfl (Nat.le_of_ble_eq_true rfl) (Nat.le_of_ble_eq_true rfl) ?_
      exact Or.inr ⟨c_21, rfl, rfl⟩
    | succ d ih =>
      intro i hi
      refine go_iload dX11_write_48 rfl ?_
      refine go_iload_n dX11_write_50 rfl ?_
      refine go_icmp_ge 76 dX11_write_51 (by decide) (fun c_51 => absurd c_51 (nI_ge (by omega) (by omega))) (fun _ => ?_)
      refine go_aload_n dX11_write_54 rfl ?_
      refine go_iload dX11_write_55 rfl ?_
      refine go_aload_n dX11_write_57 rfl ?_
      refine go_getf fX11_45 dX11_write_58 rfl rfl ?_
      refine go_getf fX11_138 dX11_write_61 rfl rfl ?_
      refine go_iload dX11_write_64 rfl ?_
      refine go_iald dX11_write_66 rfl (vp_in_nI (by omega) (by decide)) ?_
      simp only [nI_clamp (show i < 2 ^ 31 by omega)]
      refine go_callVw (z := MX6_put) [38, 39] _ dX11_write_67 lX11_265 sX6_put (ev_X6_put _ _ _ i H1.2.2.1 (by omega) hz _) rfl rfl rfl rfl rfl ⟨_, _, rfl⟩ rfl rfl rfl rfl ?_
      refine go_iincN (1) dX11_write_70 rfl (by decide) (by decide) ?_
      refine go_goto 48 dX11_write_73 (by decide) ?_
      rw [nI_1]
      exact ih (i + 1) (by omega)
  · refine go_aload_n dX11_write_24 rfl ?_
    refine go_iconst (1) dX11_write_25 (by decide) ?_
    refine go_callVsw (z := MX11_finding) dX11_write_26 lX11_223 sX11_finding (ev_X11_finding t0 t1 G N T C D P S H0 H1 H2 H3 ta lf (1)) rfl rfl rfl ⟨_, _, rfl⟩ rfl rfl rfl ?_
    refine go_ireturn dX11_write_29 rfl rfl (Nat.le_of_ble_eq_true rfl) (Nat.le_of_ble_eq_true rfl) ?_
    exact Or.inl ⟨c_21, rfl, rfl⟩
set_option maxRecDepth 100000 in
theorem ev_read2 (t0 t1 : TX) (G N : TG) (T : TT) (C D : TC) (P : TP) (S : TS) (H0 H1 H2 H3 : TH) (ta : Nat → Int32) (lf : Int32) (hz : H2.2.2.1 ≤ 60) (hS : S.1 ≤ 8) : Ev MX11_read [.ref 0, .int 2] (cwd t0 t1 G N T C D P S H0 H1 H2 H3 ta lf) (fun v w => ¬ H2.1 = 0 ∧ v = some (.int (-11)) ∧ w = (cwd t0 t1 G N T C D P S H0 H1 H2 H3 ta 1) ∨ H2.1 = 0 ∧ v = some (.int (nI (rdS H2.2.2.2 H2.2.2.1 31 0 S).1)) ∧ w = (cwd t0 t1 G N T C D P (rdS H2.2.2.2 H2.2.2.1 31 0 S).2 H0 H1 H2 H3 ta lf)) := by
  refine ev_of bX11_read [some (.ref 0), some (.int 2), none, none, none, none, none] (Nat.le_of_ble_eq_true rfl) rfl ?_
  refine go_iload_n dX11_read_0 rfl ?_
  refine go_callSi (z := MX11_isSheet) [] dX11_read_1 lX11_216 sX11_isSheet (ev_X11_isSheet _) rfl rfl rfl rfl rfl rfl ?_
  refine go_if_ne 10 dX11_read_4 (by decide) (fun _ => ?_) (fun c_4 => absurd c_4 (by decide))
  refine go_aload_n dX11_read_10 rfl ?_
  refine go_getf fX11_68 dX11_read_11 rfl rfl ?_
  refine go_iload_n dX11_read_14 rfl ?_
  refine go_aald dX11_read_15 rfl (vp_in_nI (n := 2) (by decide) (by decide)) rfl ?_
  refine go_astore_n dX11_read_16 (by decide) ?_
  refine go_aload_n dX11_read_17 rfl ?_
  refine go_getf fX11_219 dX11_read_18 rfl rfl ?_
  refine go_if_eq 30 dX11_read_21 (by decide) (fun c_21 => ?_) (fun c_21 => ?_)
  · refine go_iconst (0) dX11_read_30 (by decide) ?_
    refine go_istore_n dX11_read_31 (by decide) ?_
    refine go_iconst (0) dX11_read_32 (by decide) ?_
    refine go_istore dX11_read_33 (by decide) ?_
    suffices loop : ∀ (d i : Nat) (R : TS) (x5 x6 : Option Value), i + d = 31 → R.1 ≤ 8 → rdS H2.2.2.2 H2.2.2.1 d i R = (rdS H2.2.2.2 H2.2.2.1 31 0 S) → Go X0 MX11_read (fun v w => ¬ H2.1 = 0 ∧ v = some (.int (-11)) ∧ w = (cwd t0 t1 G N T C D P S H0 H1 H2 H3 ta 1) ∨ H2.1 = 0 ∧ v = some (.int (nI (rdS H2.2.2.2 H2.2.2.1 31 0 S).1)) ∧ w = (cwd t0 t1 G N T C D P (rdS H2.2.2.2 H2.2.2.1 31 0 S).2 H0 H1 H2 H3 ta lf)) 44 0 0 35 [some (.ref 0), some (.int 2), some (.ref 40), some (.int (nI i)), some (.int (nI (2 * i))), x5, x6] [] (cwd t0 t1 G N T C D P R H0 H1 H2 H3 ta lf) from loop 31 0 S _ _ (by omega) hS rfl
    intro d
    induction d with
    | zero =>
      intro i R x5 x6 hi hR he
      refine go_iload dX11_read_35 rfl ?_
      refine go_iconst (1) dX11_read_37 (by decide) ?_
      refine go_iadd dX11_read_38 ?_
      rw [nI_1]
      refine go_aload_n dX11_read_39 rfl ?_
      refine go_getf fX11_226 dX11_read_40 rfl rfl ?_
      refine go_icmp_ge 109 dX11_read_43 (by decide) (fun _ => ?_) (fun c_43 => absurd (nI_le (a := H2.2.2.1) (b := 2 * i + 1) (by omega) (by omega)) c_43)
      refine go_iload_n dX11_read_109 rfl ?_
      refine go_ireturn dX11_read_110 rfl rfl (Nat.le_of_ble_eq_true rfl) (Nat.le_of_ble_eq_true rfl) ?_
      rw [rdS_end (Or.inl (by omega))] at he
      exact Or.inr ⟨c_21, by rw [← he], by rw [← he]⟩
    | succ d ih =>
      intro i R x5 x6 hi hR he
      refine go_iload dX11_read_35 rfl ?_
      refine go_iconst (1) dX11_read_37 (by decide) ?_
      refine go_iadd dX11_read_38 ?_
      rw [nI_1]
      refine go_aload_n dX11_read_39 rfl ?_
      refine go_getf fX11_226 dX11_read_40 rfl rfl ?_
      refine go_icmp_ge 109 dX11_read_43 (by decide) (fun c_43 => ?_) (fun c_43 => ?_)
      · refine go_iload_n dX11_read_109 rfl ?_
        refine go_ireturn dX11_read_110 rfl rfl (Nat.le_of_ble_eq_true rfl) (Nat.le_of_ble_eq_true rfl) ?_
        rw [rdS_end (by
          first
          | exact Or.inl (fun q => absurd ((nI_leI (by omega) (by omega)).mp c_43) (by omega))
          | exact Or.inr (Or.inl (full_t2 c_73))
          | exact Or.inr (Or.inr (fun q => c_83 (if_pos (nI_lt q (by decide))))))] at he
        exact Or.inr ⟨c_21, by rw [← he], by rw [← he]⟩
      · have hk : 2 * i + 1 < H2.2.2.1 := Nat.lt_of_not_le fun q => c_43 (nI_le q (by omega))
        refine go_aload_n dX11_read_46 rfl ?_
        refine go_getf fX11_227 dX11_read_47 rfl rfl ?_
        refine go_iload dX11_read_50 rfl ?_
        refine go_iald dX11_read_52 rfl (vp_in_nI (n := 2 * i) (by omega) (by decide)) ?_
        simp only [nI_clamp (show 2 * i < 2 ^ 31 by omega)]
        refine go_istore dX11_read_53 (by decide) ?_
        refine go_aload_n dX11_read_55 rfl ?_
        refine go_getf fX11_227 dX11_read_56 rfl rfl ?_
        refine go_iload dX11_read_59 rfl ?_
        refine go_iconst (1) dX11_read_61 (by decide) ?_
        refine go_iadd dX11_read_62 ?_
        rw [nI_1]
        refine go_iald dX11_read_63 rfl (vp_in_nI (n := 2 * i + 1) (by omega) (by decide)) ?_
        simp only [nI_clamp (show 2 * i + 1 < 2 ^ 31 by omega)]
        refine go_istore dX11_read_64 (by decide) ?_
        refine go_iload dX11_read_66 rfl ?_
        refine go_iload dX11_read_68 rfl ?_
        refine go_callSi (z := MX7_allows) [] dX11_read_70 lX11_210 sX7_allows (ev_X7_allows _ _) rfl rfl rfl rfl rfl rfl ?_
        refine go_if_eq 109 dX11_read_73 (by decide) (fun c_73 => ?_) (fun c_73 => ?_)
        · refine go_iload_n dX11_read_109 rfl ?_
          refine go_ireturn dX11_read_110 rfl rfl (Nat.le_of_ble_eq_true rfl) (Nat.le_of_ble_eq_true rfl) ?_
          rw [rdS_end (by
            first
            | exact Or.inl (fun q => absurd ((nI_leI (by omega) (by omega)).mp c_43) (by omega))
            | exact Or.inr (Or.inl (full_t2 c_73))
            | exact Or.inr (Or.inr (fun q => c_83 (if_pos (nI_lt q (by decide))))))] at he
          exact Or.inr ⟨c_21, by rw [← he], by rw [← he]⟩
        · refine go_aload_n dX11_read_76 rfl ?_
          refine go_getf fX11_62 dX11_read_77 rfl rfl ?_
          refine go_callVi (z := MX7_isFull) [31, 32, 33] dX11_read_80 lX11_211 sX7_isFull (ev_X7_isFull _ _ _) rfl rfl rfl rfl rfl ⟨_, _, rfl⟩ rfl rfl ?_
          refine go_if_eq 89 dX11_read_83 (by decide) (fun c_83 => ?_) (fun c_83 => ?_)
          · have hS8 : R.1 < 8 := Nat.lt_of_not_le fun q => full_f c_83 (nI_le (a := 8) q (by omega))
            refine go_aload_n dX11_read_89 rfl ?_
            refine go_getf fX11_62 dX11_read_90 rfl rfl ?_
            refine go_iload dX11_read_93 rfl ?_
            refine go_iload dX11_read_95 rfl ?_
            refine go_callVw (z := MX7_add) [31, 32, 33] _ dX11_read_97 lX11_212 sX7_add (ev_X7_add R.1 hS8 _ _ _ _) rfl rfl rfl rfl rfl ⟨_, _, rfl⟩ rfl rfl rfl rfl ?_
            refine go_iincN (1) dX11_read_100 rfl (by decide) (by decide) ?_
            refine go_iincN (2) dX11_read_103 rfl (by decide) (by decide) ?_
            refine go_goto 35 dX11_read_106 (by decide) ?_
            rw [nI_1, show nI (2 * i) + 2 = nI (2 * (i + 1)) by rw [show (2 : Int32) = nI 2 from rfl, nI_add]; exact nI_e (by omega)]
            exact ih (i + 1) (R.1 + 1, upd R.2.1 R.1 _, upd R.2.2 R.1 _) _ _ (by omega) (by show R.1 + 1 ≤ 8; omega) ((rdS_on (fun q => q.elim (fun q => q hk) (fun q => q.elim (full_t3 c_73) (fun q => q hS8)))).symm.trans he)
          · refine go_goto 109 dX11_read_86 (by decide) ?_
            refine go_iload_n dX11_read_109 rfl ?_
            refine go_ireturn dX11_read_110 rfl rfl (Nat.le_of_ble_eq_true rfl) (Nat.le_of_ble_eq_true rfl) ?_
            rw [rdS_end (by
              first
              | exact Or.inl (fun q => absurd ((nI_leI (by omega) (by omega)).mp c_43) (by omega))
              | exact Or.inr (Or.inl (full_t2 c_73))
              | exact Or.inr (Or.inr (fun q => c_83 (if_pos (nI_lt q (by decide))))))] at he
            exact Or.inr ⟨c_21, by rw [← he], by rw [← he]⟩
  · refine go_aload_n dX11_read_24 rfl ?_
    refine go_iconst (1) dX11_read_25 (by decide) ?_
    refine go_callVsw (z := MX11_finding) dX11_read_26 lX11_223 sX11_finding (ev_X11_finding t0 t1 G N T C D P S H0 H1 H2 H3 ta lf (1)) rfl rfl rfl ⟨_, _, rfl⟩ rfl rfl rfl ?_
    refine go_ireturn dX11_read_29 rfl rfl (Nat.le_of_ble_eq_true rfl) (Nat.le_of_ble_eq_true rfl) ?_
    exact Or.inl ⟨c_21, rfl, rfl⟩
set_option maxRecDepth 100000 in
theorem ev_write2 (t0 t1 : TX) (G N : TG) (T : TT) (C D : TC) (P : TP) (S : TS) (H0 H1 H2 H3 : TH) (ta : Nat → Int32) (lf : Int32) (hz : H2.2.2.1 ≤ 60) (hN : N.1 ≤ 12) : Ev MX11_write [.ref 0, .int 2] (cwd t0 t1 G N T C D P S H0 H1 H2 H3 ta lf) (fun v w => ¬ H2.1 = 0 ∧ v = some (.int (-11)) ∧ w = (cwd t0 t1 G N T C D P S H0 H1 H2 H3 ta 1) ∨ H2.1 = 0 ∧ v = some (.int (nI (min H2.2.2.1 N.1))) ∧ w = (cwd t0 t1 G N T C D P S H0 H1 (H2.1, H2.2.1, H2.2.2.1, wrR H2.2.1 C.2.2.2.1 H2.2.2.2 (min H2.2.2.1 N.1)) H3 ta lf)) := by
  refine ev_of bX11_write [some (.ref 0), some (.int 2), none, none, none] (Nat.le_of_ble_eq_true rfl) rfl ?_
  refine go_iload_n dX11_write_0 rfl ?_
  refine go_callSi (z := MX11_isSheet) [] dX11_write_1 lX11_216 sX11_isSheet (ev_X11_isSheet _) rfl rfl rfl rfl rfl rfl ?_
  refine go_if_ne 10 dX11_write_4 (by decide) (fun _ => ?_) (fun c_4 => absurd c_4 (by decide))
  refine go_aload_n dX11_write_10 rfl ?_
  refine go_getf fX11_68 dX11_write_11 rfl rfl ?_
  refine go_iload_n dX11_write_14 rfl ?_
  refine go_aald dX11_write_15 rfl (vp_in_nI (n := 2) (by decide) (by decide)) rfl ?_
  refine go_astore_n dX11_write_16 (by decide) ?_
  refine go_aload_n dX11_write_17 rfl ?_
  refine go_getf fX11_219 dX11_write_18 rfl rfl ?_
  refine go_if_eq 30 dX11_write_21 (by decide) (fun c_21 => ?_) (fun c_21 => ?_)
  · refine go_aload_n dX11_write_30 rfl ?_
    refine go_getf fX11_226 dX11_write_31 rfl rfl ?_
    refine go_aload_n dX11_write_34 rfl ?_
    refine go_getf fX11_31 dX11_write_35 rfl rfl ?_
    refine go_getf fX11_134 dX11_write_38 rfl rfl ?_
    refine go_min dX11_write_41 lX11_284 (Nat.le_of_ble_eq_true rfl) (Nat.le_of_ble_eq_true rfl) (Nat.le_of_ble_eq_true rfl) (Nat.le_of_ble_eq_true rfl) ?_
    rw [nI_min (by omega) (by omega)]
    refine go_istore_n dX11_write_44 (by decide) ?_
    refine go_iconst (0) dX11_write_45 (by decide) ?_
    refine go_istore dX11_write_46 (by decide) ?_
    suffices loop : ∀ (d i : Nat), i + d = (min H2.2.2.1 N.1) → Go X0 MX11_write (fun v w => ¬ H2.1 = 0 ∧ v = some (.int (-11)) ∧ w = (cwd t0 t1 G N T C D P S H0 H1 H2 H3 ta 1) ∨ H2.1 = 0 ∧ v = some (.int (nI (min H2.2.2.1 N.1))) ∧ w = (cwd t0 t1 G N T C D P S H0 H1 (H2.1, H2.2.1, H2.2.2.1, wrR H2.2.1 C.2.2.2.1 H2.2.2.2 (min H2.2.2.1 N.1)) H3 ta lf)) 44 0 0 48 [some (.ref 0), some (.int 2), some (.ref 40), some (.int (nI (min H2.2.2.1 N.1))), some (.int (nI i))] [] (cwd t0 t1 G N T C D P S H0 H1 (H2.1, H2.2.1, H2.2.2.1, wrR H2.2.1 C.2.2.2.1 H2.2.2.2 i) H3 ta lf) from loop (min H2.2.2.1 N.1) 0 (by omega)
    intro d
    induction d with
    | zero =>
      intro i hi
      obtain rfl : i = (min H2.2.2.1 N.1) := by omega
      refine go_iload dX11_write_48 rfl ?_
      refine go_iload_n dX11_write_50 rfl ?_
      refine go_icmp_ge 76 dX11_write_51 (by decide) (fun _ => ?_) (fun c_51 => absurd (Int32.le_refl _) c_51)
      refine go_iload_n dX11_write_76 rfl ?_
      refine go_ireturn dX11_write_77 rfl rfl (Nat.le_of_ble_eq_true rfl) (Nat.le_of_ble_eq_true rfl) ?_
      exact Or.inr ⟨c_21, rfl, rfl⟩
    | succ d ih =>
      intro i hi
      refine go_iload dX11_write_48 rfl ?_
      refine go_iload_n dX11_write_50 rfl ?_
      refine go_icmp_ge 76 dX11_write_51 (by decide) (fun c_51 => absurd c_51 (nI_ge (by omega) (by omega))) (fun _ => ?_)
      refine go_aload_n dX11_write_54 rfl ?_
      refine go_iload dX11_write_55 rfl ?_
      refine go_aload_n dX11_write_57 rfl ?_
      refine go_getf fX11_45 dX11_write_58 rfl rfl ?_
      refine go_getf fX11_138 dX11_write_61 rfl rfl ?_
      refine go_iload dX11_write_64 rfl ?_
      refine go_iald dX11_write_66 rfl (vp_in_nI (by omega) (by decide)) ?_
      simp only [nI_clamp (show i < 2 ^ 31 by omega)]
      refine go_callVw (z := MX6_put) [40, 41] _ dX11_write_67 lX11_265 sX6_put (ev_X6_put _ _ _ i H2.2.2.1 (by omega) hz _) rfl rfl rfl rfl rfl ⟨_, _, rfl⟩ rfl rfl rfl rfl ?_
      refine go_iincN (1) dX11_write_70 rfl (by decide) (by decide) ?_
      refine go_goto 48 dX11_write_73 (by decide) ?_
      rw [nI_1]
      exact ih (i + 1) (by omega)
  · refine go_aload_n dX11_write_24 rfl ?_
    refine go_iconst (1) dX11_write_25 (by decide) ?_
    refine go_callVsw (z := MX11_finding) dX11_write_26 lX11_223 sX11_finding (ev_X11_finding t0 t1 G N T C D P S H0 H1 H2 H3 ta lf (1)) rfl rfl rfl ⟨_, _, rfl⟩ rfl rfl rfl ?_
    refine go_ireturn dX11_write_29 rfl rfl (Nat.le_of_ble_eq_true rfl) (Nat.le_of_ble_eq_true rfl) ?_
    exact Or.inl ⟨c_21, rfl, rfl⟩
set_option maxRecDepth 100000 in
theorem ev_read3 (t0 t1 : TX) (G N : TG) (T : TT) (C D : TC) (P : TP) (S : TS) (H0 H1 H2 H3 : TH) (ta : Nat → Int32) (lf : Int32) (hz : H3.2.2.1 ≤ 60) (hS : S.1 ≤ 8) : Ev MX11_read [.ref 0, .int 3] (cwd t0 t1 G N T C D P S H0 H1 H2 H3 ta lf) (fun v w => ¬ H3.1 = 0 ∧ v = some (.int (-11)) ∧ w = (cwd t0 t1 G N T C D P S H0 H1 H2 H3 ta 1) ∨ H3.1 = 0 ∧ v = some (.int (nI (rdS H3.2.2.2 H3.2.2.1 31 0 S).1)) ∧ w = (cwd t0 t1 G N T C D P (rdS H3.2.2.2 H3.2.2.1 31 0 S).2 H0 H1 H2 H3 ta lf)) := by
  refine ev_of bX11_read [some (.ref 0), some (.int 3), none, none, none, none, none] (Nat.le_of_ble_eq_true rfl) rfl ?_
  refine go_iload_n dX11_read_0 rfl ?_
  refine go_callSi (z := MX11_isSheet) [] dX11_read_1 lX11_216 sX11_isSheet (ev_X11_isSheet _) rfl rfl rfl rfl rfl rfl ?_
  refine go_if_ne 10 dX11_read_4 (by decide) (fun _ => ?_) (fun c_4 => absurd c_4 (by decide))
  refine go_aload_n dX11_read_10 rfl ?_
  refine go_getf fX11_68 dX11_read_11 rfl rfl ?_
  refine go_iload_n dX11_read_14 rfl ?_
  refine go_aald dX11_read_15 rfl (vp_in_nI (n := 3) (by decide) (by decide)) rfl ?_
  refine go_astore_n dX11_read_16 (by decide) ?_
  refine go_aload_n dX11_read_17 rfl ?_
  refine go_getf fX11_219 dX11_read_18 rfl rfl ?_
  refine go_if_eq 30 dX11_read_21 (by decide) (fun c_21 => ?_) (fun c_21 => ?_)
  · refine go_iconst (0) dX11_read_30 (by decide) ?_
    refine go_istore_n dX11_read_31 (by decide) ?_
    refine go_iconst (0) dX11_read_32 (by decide) ?_
    refine go_istore dX11_read_33 (by decide) ?_
    suffices loop : ∀ (d i : Nat) (R : TS) (x5 x6 : Option Value), i + d = 31 → R.1 ≤ 8 → rdS H3.2.2.2 H3.2.2.1 d i R = (rdS H3.2.2.2 H3.2.2.1 31 0 S) → Go X0 MX11_read (fun v w => ¬ H3.1 = 0 ∧ v = some (.int (-11)) ∧ w = (cwd t0 t1 G N T C D P S H0 H1 H2 H3 ta 1) ∨ H3.1 = 0 ∧ v = some (.int (nI (rdS H3.2.2.2 H3.2.2.1 31 0 S).1)) ∧ w = (cwd t0 t1 G N T C D P (rdS H3.2.2.2 H3.2.2.1 31 0 S).2 H0 H1 H2 H3 ta lf)) 44 0 0 35 [some (.ref 0), some (.int 3), some (.ref 42), some (.int (nI i)), some (.int (nI (2 * i))), x5, x6] [] (cwd t0 t1 G N T C D P R H0 H1 H2 H3 ta lf) from loop 31 0 S _ _ (by omega) hS rfl
    intro d
    induction d with
    | zero =>
      intro i R x5 x6 hi hR he
      refine go_iload dX11_read_35 rfl ?_
      refine go_iconst (1) dX11_read_37 (by decide) ?_
      refine go_iadd dX11_read_38 ?_
      rw [nI_1]
      refine go_aload_n dX11_read_39 rfl ?_
      refine go_getf fX11_226 dX11_read_40 rfl rfl ?_
      refine go_icmp_ge 109 dX11_read_43 (by decide) (fun _ => ?_) (fun c_43 => absurd (nI_le (a := H3.2.2.1) (b := 2 * i + 1) (by omega) (by omega)) c_43)
      refine go_iload_n dX11_read_109 rfl ?_
      refine go_ireturn dX11_read_110 rfl rfl (Nat.le_of_ble_eq_true rfl) (Nat.le_of_ble_eq_true rfl) ?_
      rw [rdS_end (Or.inl (by omega))] at he
      exact Or.inr ⟨c_21, by rw [← he], by rw [← he]⟩
    | succ d ih =>
      intro i R x5 x6 hi hR he
      refine go_iload dX11_read_35 rfl ?_
      refine go_iconst (1) dX11_read_37 (by decide) ?_
      refine go_iadd dX11_read_38 ?_
      rw [nI_1]
      refine go_aload_n dX11_read_39 rfl ?_
      refine go_getf fX11_226 dX11_read_40 rfl rfl ?_
      refine go_icmp_ge 109 dX11_read_43 (by decide) (fun c_43 => ?_) (fun c_43 => ?_)
      · refine go_iload_n dX11_read_109 rfl ?_
        refine go_ireturn dX11_read_110 rfl rfl (Nat.le_of_ble_eq_true rfl) (Nat.le_of_ble_eq_true rfl) ?_
        rw [rdS_end (by
          first
          | exact Or.inl (fun q => absurd ((nI_leI (by omega) (by omega)).mp c_43) (by omega))
          | exact Or.inr (Or.inl (full_t2 c_73))
          | exact Or.inr (Or.inr (fun q => c_83 (if_pos (nI_lt q (by decide))))))] at he
        exact Or.inr ⟨c_21, by rw [← he], by rw [← he]⟩
      · have hk : 2 * i + 1 < H3.2.2.1 := Nat.lt_of_not_le fun q => c_43 (nI_le q (by omega))
        refine go_aload_n dX11_read_46 rfl ?_
        refine go_getf fX11_227 dX11_read_47 rfl rfl ?_
        refine go_iload dX11_read_50 rfl ?_
        refine go_iald dX11_read_52 rfl (vp_in_nI (n := 2 * i) (by omega) (by decide)) ?_
        simp only [nI_clamp (show 2 * i < 2 ^ 31 by omega)]
        refine go_istore dX11_read_53 (by decide) ?_
        refine go_aload_n dX11_read_55 rfl ?_
        refine go_getf fX11_227 dX11_read_56 rfl rfl ?_
        refine go_iload dX11_read_59 rfl ?_
        refine go_iconst (1) dX11_read_61 (by decide) ?_
        refine go_iadd dX11_read_62 ?_
        rw [nI_1]
        refine go_iald dX11_read_63 rfl (vp_in_nI (n := 2 * i + 1) (by omega) (by decide)) ?_
        simp only [nI_clamp (show 2 * i + 1 < 2 ^ 31 by omega)]
        refine go_istore dX11_read_64 (by decide) ?_
        refine go_iload dX11_read_66 rfl ?_
        refine go_iload dX11_read_68 rfl ?_
        refine go_callSi (z := MX7_allows) [] dX11_read_70 lX11_210 sX7_allows (ev_X7_allows _ _) rfl rfl rfl rfl rfl rfl ?_
        refine go_if_eq 109 dX11_read_73 (by decide) (fun c_73 => ?_) (fun c_73 => ?_)
        · refine go_iload_n dX11_read_109 rfl ?_
          refine go_ireturn dX11_read_110 rfl rfl (Nat.le_of_ble_eq_true rfl) (Nat.le_of_ble_eq_true rfl) ?_
          rw [rdS_end (by
            first
            | exact Or.inl (fun q => absurd ((nI_leI (by omega) (by omega)).mp c_43) (by omega))
            | exact Or.inr (Or.inl (full_t2 c_73))
            | exact Or.inr (Or.inr (fun q => c_83 (if_pos (nI_lt q (by decide))))))] at he
          exact Or.inr ⟨c_21, by rw [← he], by rw [← he]⟩
        · refine go_aload_n dX11_read_76 rfl ?_
          refine go_getf fX11_62 dX11_read_77 rfl rfl ?_
          refine go_callVi (z := MX7_isFull) [31, 32, 33] dX11_read_80 lX11_211 sX7_isFull (ev_X7_isFull _ _ _) rfl rfl rfl rfl rfl ⟨_, _, rfl⟩ rfl rfl ?_
          refine go_if_eq 89 dX11_read_83 (by decide) (fun c_83 => ?_) (fun c_83 => ?_)
          · have hS8 : R.1 < 8 := Nat.lt_of_not_le fun q => full_f c_83 (nI_le (a := 8) q (by omega))
            refine go_aload_n dX11_read_89 rfl ?_
            refine go_getf fX11_62 dX11_read_90 rfl rfl ?_
            refine go_iload dX11_read_93 rfl ?_
            refine go_iload dX11_read_95 rfl ?_
            refine go_callVw (z := MX7_add) [31, 32, 33] _ dX11_read_97 lX11_212 sX7_add (ev_X7_add R.1 hS8 _ _ _ _) rfl rfl rfl rfl rfl ⟨_, _, rfl⟩ rfl rfl rfl rfl ?_
            refine go_iincN (1) dX11_read_100 rfl (by decide) (by decide) ?_
            refine go_iincN (2) dX11_read_103 rfl (by decide) (by decide) ?_
            refine go_goto 35 dX11_read_106 (by decide) ?_
            rw [nI_1, show nI (2 * i) + 2 = nI (2 * (i + 1)) by rw [show (2 : Int32) = nI 2 from rfl, nI_add]; exact nI_e (by omega)]
            exact ih (i + 1) (R.1 + 1, upd R.2.1 R.1 _, upd R.2.2 R.1 _) _ _ (by omega) (by show R.1 + 1 ≤ 8; omega) ((rdS_on (fun q => q.elim (fun q => q hk) (fun q => q.elim (full_t3 c_73) (fun q => q hS8)))).symm.trans he)
          · refine go_goto 109 dX11_read_86 (by decide) ?_
            refine go_iload_n dX11_read_109 rfl ?_
            refine go_ireturn dX11_read_110 rfl rfl (Nat.le_of_ble_eq_true rfl) (Nat.le_of_ble_eq_true rfl) ?_
            rw [rdS_end (by
              first
              | exact Or.inl (fun q => absurd ((nI_leI (by omega) (by omega)).mp c_43) (by omega))
              | exact Or.inr (Or.inl (full_t2 c_73))
              | exact Or.inr (Or.inr (fun q => c_83 (if_pos (nI_lt q (by decide))))))] at he
            exact Or.inr ⟨c_21, by rw [← he], by rw [← he]⟩
  · refine go_aload_n dX11_read_24 rfl ?_
    refine go_iconst (1) dX11_read_25 (by decide) ?_
    refine go_callVsw (z := MX11_finding) dX11_read_26 lX11_223 sX11_finding (ev_X11_finding t0 t1 G N T C D P S H0 H1 H2 H3 ta lf (1)) rfl rfl rfl ⟨_, _, rfl⟩ rfl rfl rfl ?_
    refine go_ireturn dX11_read_29 rfl rfl (Nat.le_of_ble_eq_true rfl) (Nat.le_of_ble_eq_true rfl) ?_
    exact Or.inl ⟨c_21, rfl, rfl⟩
set_option maxRecDepth 100000 in
theorem ev_write3 (t0 t1 : TX) (G N : TG) (T : TT) (C D : TC) (P : TP) (S : TS) (H0 H1 H2 H3 : TH) (ta : Nat → Int32) (lf : Int32) (hz : H3.2.2.1 ≤ 60) (hN : N.1 ≤ 12) : Ev MX11_write [.ref 0, .int 3] (cwd t0 t1 G N T C D P S H0 H1 H2 H3 ta lf) (fun v w => ¬ H3.1 = 0 ∧ v = some (.int (-11)) ∧ w = (cwd t0 t1 G N T C D P S H0 H1 H2 H3 ta 1) ∨ H3.1 = 0 ∧ v = some (.int (nI (min H3.2.2.1 N.1))) ∧ w = (cwd t0 t1 G N T C D P S H0 H1 H2 (H3.1, H3.2.1, H3.2.2.1, wrR H3.2.1 C.2.2.2.1 H3.2.2.2 (min H3.2.2.1 N.1)) ta lf)) := by
  refine ev_of bX11_write [some (.ref 0), some (.int 3), none, none, none] (Nat.le_of_ble_eq_true rfl) rfl ?_
  refine go_iload_n dX11_write_0 rfl ?_
  refine go_callSi (z := MX11_isSheet) [] dX11_write_1 lX11_216 sX11_isSheet (ev_X11_isSheet _) rfl rfl rfl rfl rfl rfl ?_
  refine go_if_ne 10 dX11_write_4 (by decide) (fun _ => ?_) (fun c_4 => absurd c_4 (by decide))
  refine go_aload_n dX11_write_10 rfl ?_
  refine go_getf fX11_68 dX11_write_11 rfl rfl ?_
  refine go_iload_n dX11_write_14 rfl ?_
  refine go_aald dX11_write_15 rfl (vp_in_nI (n := 3) (by decide) (by decide)) rfl ?_
  refine go_astore_n dX11_write_16 (by decide) ?_
  refine go_aload_n dX11_write_17 rfl ?_
  refine go_getf fX11_219 dX11_write_18 rfl rfl ?_
  refine go_if_eq 30 dX11_write_21 (by decide) (fun c_21 => ?_) (fun c_21 => ?_)
  · refine go_aload_n dX11_write_30 rfl ?_
    refine go_getf fX11_226 dX11_write_31 rfl rfl ?_
    refine go_aload_n dX11_write_34 rfl ?_
    refine go_getf fX11_31 dX11_write_35 rfl rfl ?_
    refine go_getf fX11_134 dX11_write_38 rfl rfl ?_
    refine go_min dX11_write_41 lX11_284 (Nat.le_of_ble_eq_true rfl) (Nat.le_of_ble_eq_true rfl) (Nat.le_of_ble_eq_true rfl) (Nat.le_of_ble_eq_true rfl) ?_
    rw [nI_min (by omega) (by omega)]
    refine go_istore_n dX11_write_44 (by decide) ?_
    refine go_iconst (0) dX11_write_45 (by decide) ?_
    refine go_istore dX11_write_46 (by decide) ?_
    suffices loop : ∀ (d i : Nat), i + d = (min H3.2.2.1 N.1) → Go X0 MX11_write (fun v w => ¬ H3.1 = 0 ∧ v = some (.int (-11)) ∧ w = (cwd t0 t1 G N T C D P S H0 H1 H2 H3 ta 1) ∨ H3.1 = 0 ∧ v = some (.int (nI (min H3.2.2.1 N.1))) ∧ w = (cwd t0 t1 G N T C D P S H0 H1 H2 (H3.1, H3.2.1, H3.2.2.1, wrR H3.2.1 C.2.2.2.1 H3.2.2.2 (min H3.2.2.1 N.1)) ta lf)) 44 0 0 48 [some (.ref 0), some (.int 3), some (.ref 42), some (.int (nI (min H3.2.2.1 N.1))), some (.int (nI i))] [] (cwd t0 t1 G N T C D P S H0 H1 H2 (H3.1, H3.2.1, H3.2.2.1, wrR H3.2.1 C.2.2.2.1 H3.2.2.2 i) ta lf) from loop (min H3.2.2.1 N.1) 0 (by omega)
    intro d
    induction d with
    | zero =>
      intro i hi
      obtain rfl : i = (min H3.2.2.1 N.1) := by omega
      refine go_iload dX11_write_48 rfl ?_
      refine go_iload_n dX11_write_50 rfl ?_
      refine go_icmp_ge 76 dX11_write_51 (by decide) (fun _ => ?_) (fun c_51 => absurd (Int32.le_refl _) c_51)
      refine go_iload_n dX11_write_76 rfl ?_
      refine go_ireturn dX11_write_77 rfl rfl (Nat.le_of_ble_eq_true rfl) (Nat.le_of_ble_eq_true rfl) ?_
      exact Or.inr ⟨c_21, rfl, rfl⟩
    | succ d ih =>
      intro i hi
      refine go_iload dX11_write_48 rfl ?_
      refine go_iload_n dX11_write_50 rfl ?_
      refine go_icmp_ge 76 dX11_write_51 (by decide) (fun c_51 => absurd c_51 (nI_ge (by omega) (by omega))) (fun _ => ?_)
      refine go_aload_n dX11_write_54 rfl ?_
      refine go_iload dX11_write_55 rfl ?_
      refine go_aload_n dX11_write_57 rfl ?_
      refine go_getf fX11_45 dX11_write_58 rfl rfl ?_
      refine go_getf fX11_138 dX11_write_61 rfl rfl ?_
      refine go_iload dX11_write_64 rfl ?_
      refine go_iald dX11_write_66 rfl (vp_in_nI (by omega) (by decide)) ?_
      simp only [nI_clamp (show i < 2 ^ 31 by omega)]
      refine go_callVw (z := MX6_put) [42, 43] _ dX11_write_67 lX11_265 sX6_put (ev_X6_put _ _ _ i H3.2.2.1 (by omega) hz _) rfl rfl rfl rfl rfl ⟨_, _, rfl⟩ rfl rfl rfl rfl ?_
      refine go_iincN (1) dX11_write_70 rfl (by decide) (by decide) ?_
      refine go_goto 48 dX11_write_73 (by decide) ?_
      rw [nI_1]
      exact ih (i + 1) (by omega)
  · refine go_aload_n dX11_write_24 rfl ?_
    refine go_iconst (1) dX11_write_25 (by decide) ?_
    refine go_callVsw (z := MX11_finding) dX11_write_26 lX11_223 sX11_finding (ev_X11_finding t0 t1 G N T C D P S H0 H1 H2 H3 ta lf (1)) rfl rfl rfl ⟨_, _, rfl⟩ rfl rfl rfl ?_
    refine go_ireturn dX11_write_29 rfl rfl (Nat.le_of_ble_eq_true rfl) (Nat.le_of_ble_eq_true rfl) ?_
    exact Or.inl ⟨c_21, rfl, rfl⟩
set_option maxRecDepth 100000 in
theorem ev_copy00 (t0 t1 : TX) (G N : TG) (T : TT) (C D : TC) (P : TP) (S : TS) (H0 H1 H2 H3 : TH) (ta : Nat → Int32) (lf : Int32) (i j n : Int32) (hz : H0.2.2.1 ≤ 60) (hy : H0.2.2.1 ≤ 60) : Ev MX11_copy [.ref 0, .int 0, .int i, .int 0, .int j, .int n] (cwd t0 t1 G N T C D P S H0 H1 H2 H3 ta lf) (fun v w => (¬ H0.1 = 0 ∨ ¬ H0.1 = 0) ∧ v = some (.int (-11)) ∧ w = (cwd t0 t1 G N T C D P S H0 H1 H2 H3 ta 1) ∨ ¬ (¬ H0.1 = 0 ∨ ¬ H0.1 = 0) ∧ ¬ H0.2.1 = H0.2.1 ∧ v = some (.int (-14)) ∧ w = (cwd t0 t1 G N T C D P S H0 H1 H2 H3 ta 4) ∨ ¬ (¬ H0.1 = 0 ∨ ¬ H0.1 = 0) ∧ H0.2.1 = H0.2.1 ∧ ((i < 0 ∨ n < 0 ∨ nI H0.2.2.1 < i ∨ nI H0.2.2.1 - i < n) ∨ (j < 0 ∨ n < 0 ∨ nI H0.2.2.1 < j ∨ nI H0.2.2.1 - j < n)) ∧ v = some (.int (-12)) ∧ w = (cwd t0 t1 G N T C D P S H0 H1 H2 H3 ta 2) ∨ ¬ (¬ H0.1 = 0 ∨ ¬ H0.1 = 0) ∧ H0.2.1 = H0.2.1 ∧ ¬ ((i < 0 ∨ n < 0 ∨ nI H0.2.2.1 < i ∨ nI H0.2.2.1 - i < n) ∨ (j < 0 ∨ n < 0 ∨ nI H0.2.2.1 < j ∨ nI H0.2.2.1 - j < n)) ∧ v = some (.int 1) ∧ w = (cwd t0 t1 G N T C D P S (H0.1, H0.2.1, H0.2.2.1, va_cpy H0.2.2.2 H0.2.2.2 i.toNatClampNeg j.toNatClampNeg n.toNatClampNeg) H1 H2 H3 ta lf)) := by
  refine ev_of bX11_copy [some (.ref 0), some (.int 0), some (.int i), some (.int 0), some (.int j), some (.int n), none, none] (Nat.le_of_ble_eq_true rfl) rfl ?_
  refine go_iload_n dX11_copy_0 rfl ?_
  refine go_callSi (z := MX11_isSheet) [] dX11_copy_1 lX11_216 sX11_isSheet (ev_X11_isSheet _) rfl rfl rfl rfl rfl rfl ?_
  refine go_if_eq 14 dX11_copy_4 (by decide) (fun c_4 => absurd c_4 (by decide)) (fun _ => ?_)
  refine go_iload_n dX11_copy_7 rfl ?_
  refine go_callSi (z := MX11_isSheet) [] dX11_copy_8 lX11_216 sX11_isSheet (ev_X11_isSheet _) rfl rfl rfl rfl rfl rfl ?_
  refine go_if_ne 17 dX11_copy_11 (by decide) (fun _ => ?_) (fun c_11 => absurd c_11 (by decide))
  refine go_aload_n dX11_copy_17 rfl ?_
  refine go_getf fX11_68 dX11_copy_18 rfl rfl ?_
  refine go_iload_n dX11_copy_21 rfl ?_
  refine go_aald dX11_copy_22 rfl (vp_in_nI (n := 0) (by decide) (by decide)) rfl ?_
  refine go_astore dX11_copy_23 (by decide) ?_
  refine go_aload_n dX11_copy_25 rfl ?_
  refine go_getf fX11_68 dX11_copy_26 rfl rfl ?_
  refine go_iload_n dX11_copy_29 rfl ?_
  refine go_aald dX11_copy_30 rfl (vp_in_nI (n := 0) (by decide) (by decide)) rfl ?_
  refine go_astore dX11_copy_31 (by decide) ?_
  refine go_aload dX11_copy_33 rfl ?_
  refine go_getf fX11_219 dX11_copy_35 rfl rfl ?_
  refine go_if_ne 49 dX11_copy_38 (by decide) (fun c_38 => ?_) (fun c_38 => ?_)
  · refine go_aload_n dX11_copy_49 rfl ?_
    refine go_iconst (1) dX11_copy_50 (by decide) ?_
    refine go_callVsw (z := MX11_finding) dX11_copy_51 lX11_223 sX11_finding (ev_X11_finding t0 t1 G N T C D P S H0 H1 H2 H3 ta lf (1)) rfl rfl rfl ⟨_, _, rfl⟩ rfl rfl rfl ?_
    refine go_ireturn dX11_copy_54 rfl rfl (Nat.le_of_ble_eq_true rfl) (Nat.le_of_ble_eq_true rfl) ?_
    exact Or.inl ⟨by first | exact Or.inl c_38 | exact Or.inr c_46, rfl, rfl⟩
  · refine go_aload dX11_copy_41 rfl ?_
    refine go_getf fX11_219 dX11_copy_43 rfl rfl ?_
    refine go_if_eq 55 dX11_copy_46 (by decide) (fun c_46 => ?_) (fun c_46 => ?_)
    · refine go_aload dX11_copy_55 rfl ?_
      refine go_getf fX11_272 dX11_copy_57 rfl rfl ?_
      refine go_aload dX11_copy_60 rfl ?_
      refine go_getf fX11_272 dX11_copy_62 rfl rfl ?_
      refine go_icmp_eq 74 dX11_copy_65 (by decide) (fun c_65 => ?_) (fun c_65 => ?_)
      · refine go_aload dX11_copy_74 rfl ?_
        refine go_iload_n dX11_copy_76 rfl ?_
        refine go_iload dX11_copy_77 rfl ?_
        refine go_callVi (z := MX6_hasStretch) [36, 37] dX11_copy_79 lX11_275 sX6_hasStretch (ev_X6_hasStretch _ _ _ i n _) rfl rfl rfl rfl rfl ⟨_, _, rfl⟩ rfl rfl ?_
        refine go_if_eq 97 dX11_copy_82 (by decide) (fun c_82 => ?_) (fun c_82 => ?_)
        · refine go_aload_n dX11_copy_97 rfl ?_
          refine go_iconst (2) dX11_copy_98 (by decide) ?_
          refine go_callVsw (z := MX11_finding) dX11_copy_99 lX11_223 sX11_finding (ev_X11_finding t0 t1 G N T C D P S H0 H1 H2 H3 ta lf (2)) rfl rfl rfl ⟨_, _, rfl⟩ rfl rfl rfl ?_
          refine go_ireturn dX11_copy_102 rfl rfl (Nat.le_of_ble_eq_true rfl) (Nat.le_of_ble_eq_true rfl) ?_
          exact Or.inr (Or.inr (Or.inl ⟨fun q => q.elim (fun q => q c_38) (fun q => q c_46), c_65, by first | exact Or.inr (full_t2 c_94) | exact Or.inl (full_t2 c_82), rfl, rfl⟩))
        · refine go_aload dX11_copy_85 rfl ?_
          refine go_iload dX11_copy_87 rfl ?_
          refine go_iload dX11_copy_89 rfl ?_
          refine go_callVi (z := MX6_hasStretch) [36, 37] dX11_copy_91 lX11_275 sX6_hasStretch (ev_X6_hasStretch _ _ _ j n _) rfl rfl rfl rfl rfl ⟨_, _, rfl⟩ rfl rfl ?_
          refine go_if_ne 103 dX11_copy_94 (by decide) (fun c_94 => ?_) (fun c_94 => ?_)
          · have g1 := stretch_ok hz (full_t3 c_82)
            have g2 := stretch_ok hy (full_t3 c_94)
            refine go_aload dX11_copy_103 rfl ?_
            refine go_getf fX11_227 dX11_copy_105 rfl rfl ?_
            refine go_iload_n dX11_copy_108 rfl ?_
            refine go_aload dX11_copy_109 rfl ?_
            refine go_getf fX11_227 dX11_copy_111 rfl rfl ?_
            refine go_iload dX11_copy_114 rfl ?_
            refine go_iload dX11_copy_116 rfl ?_
            refine go_copyI dX11_copy_118 lX11_278 rfl rfl g1.1 g2.1 g1.2.1 g1.2.2 g2.2.2 cpN cpS in_J10 (Nat.le_of_ble_eq_true rfl) (Nat.le_of_ble_eq_true rfl) ?_
            refine go_iconst (1) dX11_copy_121 (by decide) ?_
            refine go_ireturn dX11_copy_122 rfl rfl (Nat.le_of_ble_eq_true rfl) (Nat.le_of_ble_eq_true rfl) ?_
            exact Or.inr (Or.inr (Or.inr ⟨fun q => q.elim (fun q => q c_38) (fun q => q c_46), c_65, fun q => q.elim (full_t3 c_82) (full_t3 c_94), rfl, rfl⟩))
          · refine go_aload_n dX11_copy_97 rfl ?_
            refine go_iconst (2) dX11_copy_98 (by decide) ?_
            refine go_callVsw (z := MX11_finding) dX11_copy_99 lX11_223 sX11_finding (ev_X11_finding t0 t1 G N T C D P S H0 H1 H2 H3 ta lf (2)) rfl rfl rfl ⟨_, _, rfl⟩ rfl rfl rfl ?_
            refine go_ireturn dX11_copy_102 rfl rfl (Nat.le_of_ble_eq_true rfl) (Nat.le_of_ble_eq_true rfl) ?_
            exact Or.inr (Or.inr (Or.inl ⟨fun q => q.elim (fun q => q c_38) (fun q => q c_46), c_65, by first | exact Or.inr (full_t2 c_94) | exact Or.inl (full_t2 c_82), rfl, rfl⟩))
      · refine go_aload_n dX11_copy_68 rfl ?_
        refine go_iconst (4) dX11_copy_69 (by decide) ?_
        refine go_callVsw (z := MX11_finding) dX11_copy_70 lX11_223 sX11_finding (ev_X11_finding t0 t1 G N T C D P S H0 H1 H2 H3 ta lf (4)) rfl rfl rfl ⟨_, _, rfl⟩ rfl rfl rfl ?_
        refine go_ireturn dX11_copy_73 rfl rfl (Nat.le_of_ble_eq_true rfl) (Nat.le_of_ble_eq_true rfl) ?_
        exact Or.inr (Or.inl ⟨fun q => q.elim (fun q => q c_38) (fun q => q c_46), c_65, rfl, rfl⟩)
    · refine go_aload_n dX11_copy_49 rfl ?_
      refine go_iconst (1) dX11_copy_50 (by decide) ?_
      refine go_callVsw (z := MX11_finding) dX11_copy_51 lX11_223 sX11_finding (ev_X11_finding t0 t1 G N T C D P S H0 H1 H2 H3 ta lf (1)) rfl rfl rfl ⟨_, _, rfl⟩ rfl rfl rfl ?_
      refine go_ireturn dX11_copy_54 rfl rfl (Nat.le_of_ble_eq_true rfl) (Nat.le_of_ble_eq_true rfl) ?_
      exact Or.inl ⟨by first | exact Or.inl c_38 | exact Or.inr c_46, rfl, rfl⟩
set_option maxRecDepth 100000 in
theorem ev_copy01 (t0 t1 : TX) (G N : TG) (T : TT) (C D : TC) (P : TP) (S : TS) (H0 H1 H2 H3 : TH) (ta : Nat → Int32) (lf : Int32) (i j n : Int32) (hz : H0.2.2.1 ≤ 60) (hy : H1.2.2.1 ≤ 60) : Ev MX11_copy [.ref 0, .int 0, .int i, .int 1, .int j, .int n] (cwd t0 t1 G N T C D P S H0 H1 H2 H3 ta lf) (fun v w => (¬ H0.1 = 0 ∨ ¬ H1.1 = 0) ∧ v = some (.int (-11)) ∧ w = (cwd t0 t1 G N T C D P S H0 H1 H2 H3 ta 1) ∨ ¬ (¬ H0.1 = 0 ∨ ¬ H1.1 = 0) ∧ ¬ H0.2.1 = H1.2.1 ∧ v = some (.int (-14)) ∧ w = (cwd t0 t1 G N T C D P S H0 H1 H2 H3 ta 4) ∨ ¬ (¬ H0.1 = 0 ∨ ¬ H1.1 = 0) ∧ H0.2.1 = H1.2.1 ∧ ((i < 0 ∨ n < 0 ∨ nI H0.2.2.1 < i ∨ nI H0.2.2.1 - i < n) ∨ (j < 0 ∨ n < 0 ∨ nI H1.2.2.1 < j ∨ nI H1.2.2.1 - j < n)) ∧ v = some (.int (-12)) ∧ w = (cwd t0 t1 G N T C D P S H0 H1 H2 H3 ta 2) ∨ ¬ (¬ H0.1 = 0 ∨ ¬ H1.1 = 0) ∧ H0.2.1 = H1.2.1 ∧ ¬ ((i < 0 ∨ n < 0 ∨ nI H0.2.2.1 < i ∨ nI H0.2.2.1 - i < n) ∨ (j < 0 ∨ n < 0 ∨ nI H1.2.2.1 < j ∨ nI H1.2.2.1 - j < n)) ∧ v = some (.int 1) ∧ w = (cwd t0 t1 G N T C D P S H0 (H1.1, H1.2.1, H1.2.2.1, va_cpy H0.2.2.2 H1.2.2.2 i.toNatClampNeg j.toNatClampNeg n.toNatClampNeg) H2 H3 ta lf)) := by
  refine ev_of bX11_copy [some (.ref 0), some (.int 0), some (.int i), some (.int 1), some (.int j), some (.int n), none, none] (Nat.le_of_ble_eq_true rfl) rfl ?_
  refine go_iload_n dX11_copy_0 rfl ?_
  refine go_callSi (z := MX11_isSheet) [] dX11_copy_1 lX11_216 sX11_isSheet (ev_X11_isSheet _) rfl rfl rfl rfl rfl rfl ?_
  refine go_if_eq 14 dX11_copy_4 (by decide) (fun c_4 => absurd c_4 (by decide)) (fun _ => ?_)
  refine go_iload_n dX11_copy_7 rfl ?_
  refine go_callSi (z := MX11_isSheet) [] dX11_copy_8 lX11_216 sX11_isSheet (ev_X11_isSheet _) rfl rfl rfl rfl rfl rfl ?_
  refine go_if_ne 17 dX11_copy_11 (by decide) (fun _ => ?_) (fun c_11 => absurd c_11 (by decide))
  refine go_aload_n dX11_copy_17 rfl ?_
  refine go_getf fX11_68 dX11_copy_18 rfl rfl ?_
  refine go_iload_n dX11_copy_21 rfl ?_
  refine go_aald dX11_copy_22 rfl (vp_in_nI (n := 0) (by decide) (by decide)) rfl ?_
  refine go_astore dX11_copy_23 (by decide) ?_
  refine go_aload_n dX11_copy_25 rfl ?_
  refine go_getf fX11_68 dX11_copy_26 rfl rfl ?_
  refine go_iload_n dX11_copy_29 rfl ?_
  refine go_aald dX11_copy_30 rfl (vp_in_nI (n := 1) (by decide) (by decide)) rfl ?_
  refine go_astore dX11_copy_31 (by decide) ?_
  refine go_aload dX11_copy_33 rfl ?_
  refine go_getf fX11_219 dX11_copy_35 rfl rfl ?_
  refine go_if_ne 49 dX11_copy_38 (by decide) (fun c_38 => ?_) (fun c_38 => ?_)
  · refine go_aload_n dX11_copy_49 rfl ?_
    refine go_iconst (1) dX11_copy_50 (by decide) ?_
    refine go_callVsw (z := MX11_finding) dX11_copy_51 lX11_223 sX11_finding (ev_X11_finding t0 t1 G N T C D P S H0 H1 H2 H3 ta lf (1)) rfl rfl rfl ⟨_, _, rfl⟩ rfl rfl rfl ?_
    refine go_ireturn dX11_copy_54 rfl rfl (Nat.le_of_ble_eq_true rfl) (Nat.le_of_ble_eq_true rfl) ?_
    exact Or.inl ⟨by first | exact Or.inl c_38 | exact Or.inr c_46, rfl, rfl⟩
  · refine go_aload dX11_copy_41 rfl ?_
    refine go_getf fX11_219 dX11_copy_43 rfl rfl ?_
    refine go_if_eq 55 dX11_copy_46 (by decide) (fun c_46 => ?_) (fun c_46 => ?_)
    · refine go_aload dX11_copy_55 rfl ?_
      refine go_getf fX11_272 dX11_copy_57 rfl rfl ?_
      refine go_aload dX11_copy_60 rfl ?_
      refine go_getf fX11_272 dX11_copy_62 rfl rfl ?_
      refine go_icmp_eq 74 dX11_copy_65 (by decide) (fun c_65 => ?_) (fun c_65 => ?_)
      · refine go_aload dX11_copy_74 rfl ?_
        refine go_iload_n dX11_copy_76 rfl ?_
        refine go_iload dX11_copy_77 rfl ?_
        refine go_callVi (z := MX6_hasStretch) [36, 37] dX11_copy_79 lX11_275 sX6_hasStretch (ev_X6_hasStretch _ _ _ i n _) rfl rfl rfl rfl rfl ⟨_, _, rfl⟩ rfl rfl ?_
        refine go_if_eq 97 dX11_copy_82 (by decide) (fun c_82 => ?_) (fun c_82 => ?_)
        · refine go_aload_n dX11_copy_97 rfl ?_
          refine go_iconst (2) dX11_copy_98 (by decide) ?_
          refine go_callVsw (z := MX11_finding) dX11_copy_99 lX11_223 sX11_finding (ev_X11_finding t0 t1 G N T C D P S H0 H1 H2 H3 ta lf (2)) rfl rfl rfl ⟨_, _, rfl⟩ rfl rfl rfl ?_
          refine go_ireturn dX11_copy_102 rfl rfl (Nat.le_of_ble_eq_true rfl) (Nat.le_of_ble_eq_true rfl) ?_
          exact Or.inr (Or.inr (Or.inl ⟨fun q => q.elim (fun q => q c_38) (fun q => q c_46), c_65, by first | exact Or.inr (full_t2 c_94) | exact Or.inl (full_t2 c_82), rfl, rfl⟩))
        · refine go_aload dX11_copy_85 rfl ?_
          refine go_iload dX11_copy_87 rfl ?_
          refine go_iload dX11_copy_89 rfl ?_
          refine go_callVi (z := MX6_hasStretch) [38, 39] dX11_copy_91 lX11_275 sX6_hasStretch (ev_X6_hasStretch _ _ _ j n _) rfl rfl rfl rfl rfl ⟨_, _, rfl⟩ rfl rfl ?_
          refine go_if_ne 103 dX11_copy_94 (by decide) (fun c_94 => ?_) (fun c_94 => ?_)
          · have g1 := stretch_ok hz (full_t3 c_82)
            have g2 := stretch_ok hy (full_t3 c_94)
            refine go_aload dX11_copy_103 rfl ?_
            refine go_getf fX11_227 dX11_copy_105 rfl rfl ?_
            refine go_iload_n dX11_copy_108 rfl ?_
            refine go_aload dX11_copy_109 rfl ?_
            refine go_getf fX11_227 dX11_copy_111 rfl rfl ?_
            refine go_iload dX11_copy_114 rfl ?_
            refine go_iload dX11_copy_116 rfl ?_
            refine go_copyI dX11_copy_118 lX11_278 rfl rfl g1.1 g2.1 g1.2.1 g1.2.2 g2.2.2 cpN cpS in_J10 (Nat.le_of_ble_eq_true rfl) (Nat.le_of_ble_eq_true rfl) ?_
            refine go_iconst (1) dX11_copy_121 (by decide) ?_
            refine go_ireturn dX11_copy_122 rfl rfl (Nat.le_of_ble_eq_true rfl) (Nat.le_of_ble_eq_true rfl) ?_
            exact Or.inr (Or.inr (Or.inr ⟨fun q => q.elim (fun q => q c_38) (fun q => q c_46), c_65, fun q => q.elim (full_t3 c_82) (full_t3 c_94), rfl, rfl⟩))
          · refine go_aload_n dX11_copy_97 rfl ?_
            refine go_iconst (2) dX11_copy_98 (by decide) ?_
            refine go_callVsw (z := MX11_finding) dX11_copy_99 lX11_223 sX11_finding (ev_X11_finding t0 t1 G N T C D P S H0 H1 H2 H3 ta lf (2)) rfl rfl rfl ⟨_, _, rfl⟩ rfl rfl rfl ?_
            refine go_ireturn dX11_copy_102 rfl rfl (Nat.le_of_ble_eq_true rfl) (Nat.le_of_ble_eq_true rfl) ?_
            exact Or.inr (Or.inr (Or.inl ⟨fun q => q.elim (fun q => q c_38) (fun q => q c_46), c_65, by first | exact Or.inr (full_t2 c_94) | exact Or.inl (full_t2 c_82), rfl, rfl⟩))
      · refine go_aload_n dX11_copy_68 rfl ?_
        refine go_iconst (4) dX11_copy_69 (by decide) ?_
        refine go_callVsw (z := MX11_finding) dX11_copy_70 lX11_223 sX11_finding (ev_X11_finding t0 t1 G N T C D P S H0 H1 H2 H3 ta lf (4)) rfl rfl rfl ⟨_, _, rfl⟩ rfl rfl rfl ?_
        refine go_ireturn dX11_copy_73 rfl rfl (Nat.le_of_ble_eq_true rfl) (Nat.le_of_ble_eq_true rfl) ?_
        exact Or.inr (Or.inl ⟨fun q => q.elim (fun q => q c_38) (fun q => q c_46), c_65, rfl, rfl⟩)
    · refine go_aload_n dX11_copy_49 rfl ?_
      refine go_iconst (1) dX11_copy_50 (by decide) ?_
      refine go_callVsw (z := MX11_finding) dX11_copy_51 lX11_223 sX11_finding (ev_X11_finding t0 t1 G N T C D P S H0 H1 H2 H3 ta lf (1)) rfl rfl rfl ⟨_, _, rfl⟩ rfl rfl rfl ?_
      refine go_ireturn dX11_copy_54 rfl rfl (Nat.le_of_ble_eq_true rfl) (Nat.le_of_ble_eq_true rfl) ?_
      exact Or.inl ⟨by first | exact Or.inl c_38 | exact Or.inr c_46, rfl, rfl⟩
set_option maxRecDepth 100000 in
theorem ev_copy02 (t0 t1 : TX) (G N : TG) (T : TT) (C D : TC) (P : TP) (S : TS) (H0 H1 H2 H3 : TH) (ta : Nat → Int32) (lf : Int32) (i j n : Int32) (hz : H0.2.2.1 ≤ 60) (hy : H2.2.2.1 ≤ 60) : Ev MX11_copy [.ref 0, .int 0, .int i, .int 2, .int j, .int n] (cwd t0 t1 G N T C D P S H0 H1 H2 H3 ta lf) (fun v w => (¬ H0.1 = 0 ∨ ¬ H2.1 = 0) ∧ v = some (.int (-11)) ∧ w = (cwd t0 t1 G N T C D P S H0 H1 H2 H3 ta 1) ∨ ¬ (¬ H0.1 = 0 ∨ ¬ H2.1 = 0) ∧ ¬ H0.2.1 = H2.2.1 ∧ v = some (.int (-14)) ∧ w = (cwd t0 t1 G N T C D P S H0 H1 H2 H3 ta 4) ∨ ¬ (¬ H0.1 = 0 ∨ ¬ H2.1 = 0) ∧ H0.2.1 = H2.2.1 ∧ ((i < 0 ∨ n < 0 ∨ nI H0.2.2.1 < i ∨ nI H0.2.2.1 - i < n) ∨ (j < 0 ∨ n < 0 ∨ nI H2.2.2.1 < j ∨ nI H2.2.2.1 - j < n)) ∧ v = some (.int (-12)) ∧ w = (cwd t0 t1 G N T C D P S H0 H1 H2 H3 ta 2) ∨ ¬ (¬ H0.1 = 0 ∨ ¬ H2.1 = 0) ∧ H0.2.1 = H2.2.1 ∧ ¬ ((i < 0 ∨ n < 0 ∨ nI H0.2.2.1 < i ∨ nI H0.2.2.1 - i < n) ∨ (j < 0 ∨ n < 0 ∨ nI H2.2.2.1 < j ∨ nI H2.2.2.1 - j < n)) ∧ v = some (.int 1) ∧ w = (cwd t0 t1 G N T C D P S H0 H1 (H2.1, H2.2.1, H2.2.2.1, va_cpy H0.2.2.2 H2.2.2.2 i.toNatClampNeg j.toNatClampNeg n.toNatClampNeg) H3 ta lf)) := by
  refine ev_of bX11_copy [some (.ref 0), some (.int 0), some (.int i), some (.int 2), some (.int j), some (.int n), none, none] (Nat.le_of_ble_eq_true rfl) rfl ?_
  refine go_iload_n dX11_copy_0 rfl ?_
  refine go_callSi (z := MX11_isSheet) [] dX11_copy_1 lX11_216 sX11_isSheet (ev_X11_isSheet _) rfl rfl rfl rfl rfl rfl ?_
  refine go_if_eq 14 dX11_copy_4 (by decide) (fun c_4 => absurd c_4 (by decide)) (fun _ => ?_)
  refine go_iload_n dX11_copy_7 rfl ?_
  refine go_callSi (z := MX11_isSheet) [] dX11_copy_8 lX11_216 sX11_isSheet (ev_X11_isSheet _) rfl rfl rfl rfl rfl rfl ?_
  refine go_if_ne 17 dX11_copy_11 (by decide) (fun _ => ?_) (fun c_11 => absurd c_11 (by decide))
  refine go_aload_n dX11_copy_17 rfl ?_
  refine go_getf fX11_68 dX11_copy_18 rfl rfl ?_
  refine go_iload_n dX11_copy_21 rfl ?_
  refine go_aald dX11_copy_22 rfl (vp_in_nI (n := 0) (by decide) (by decide)) rfl ?_
  refine go_astore dX11_copy_23 (by decide) ?_
  refine go_aload_n dX11_copy_25 rfl ?_
  refine go_getf fX11_68 dX11_copy_26 rfl rfl ?_
  refine go_iload_n dX11_copy_29 rfl ?_
  refine go_aald dX11_copy_30 rfl (vp_in_nI (n := 2) (by decide) (by decide)) rfl ?_
  refine go_astore dX11_copy_31 (by decide) ?_
  refine go_aload dX11_copy_33 rfl ?_
  refine go_getf fX11_219 dX11_copy_35 rfl rfl ?_
  refine go_if_ne 49 dX11_copy_38 (by decide) (fun c_38 => ?_) (fun c_38 => ?_)
  · refine go_aload_n dX11_copy_49 rfl ?_
    refine go_iconst (1) dX11_copy_50 (by decide) ?_
    refine go_callVsw (z := MX11_finding) dX11_copy_51 lX11_223 sX11_finding (ev_X11_finding t0 t1 G N T C D P S H0 H1 H2 H3 ta lf (1)) rfl rfl rfl ⟨_, _, rfl⟩ rfl rfl rfl ?_
    refine go_ireturn dX11_copy_54 rfl rfl (Nat.le_of_ble_eq_true rfl) (Nat.le_of_ble_eq_true rfl) ?_
    exact Or.inl ⟨by first | exact Or.inl c_38 | exact Or.inr c_46, rfl, rfl⟩
  · refine go_aload dX11_copy_41 rfl ?_
    refine go_getf fX11_219 dX11_copy_43 rfl rfl ?_
    refine go_if_eq 55 dX11_copy_46 (by decide) (fun c_46 => ?_) (fun c_46 => ?_)
    · refine go_aload dX11_copy_55 rfl ?_
      refine go_getf fX11_272 dX11_copy_57 rfl rfl ?_
      refine go_aload dX11_copy_60 rfl ?_
      refine go_getf fX11_272 dX11_copy_62 rfl rfl ?_
      refine go_icmp_eq 74 dX11_copy_65 (by decide) (fun c_65 => ?_) (fun c_65 => ?_)
      · refine go_aload dX11_copy_74 rfl ?_
        refine go_iload_n dX11_copy_76 rfl ?_
        refine go_iload dX11_copy_77 rfl ?_
        refine go_callVi (z := MX6_hasStretch) [36, 37] dX11_copy_79 lX11_275 sX6_hasStretch (ev_X6_hasStretch _ _ _ i n _) rfl rfl rfl rfl rfl ⟨_, _, rfl⟩ rfl rfl ?_
        refine go_if_eq 97 dX11_copy_82 (by decide) (fun c_82 => ?_) (fun c_82 => ?_)
        · refine go_aload_n dX11_copy_97 rfl ?_
          refine go_iconst (2) dX11_copy_98 (by decide) ?_
          refine go_callVsw (z := MX11_finding) dX11_copy_99 lX11_223 sX11_finding (ev_X11_finding t0 t1 G N T C D P S H0 H1 H2 H3 ta lf (2)) rfl rfl rfl ⟨_, _, rfl⟩ rfl rfl rfl ?_
          refine go_ireturn dX11_copy_102 rfl rfl (Nat.le_of_ble_eq_true rfl) (Nat.le_of_ble_eq_true rfl) ?_
          exact Or.inr (Or.inr (Or.inl ⟨fun q => q.elim (fun q => q c_38) (fun q => q c_46), c_65, by first | exact Or.inr (full_t2 c_94) | exact Or.inl (full_t2 c_82), rfl, rfl⟩))
        · refine go_aload dX11_copy_85 rfl ?_
          refine go_iload dX11_copy_87 rfl ?_
          refine go_iload dX11_copy_89 rfl ?_
          refine go_callVi (z := MX6_hasStretch) [40, 41] dX11_copy_91 lX11_275 sX6_hasStretch (ev_X6_hasStretch _ _ _ j n _) rfl rfl rfl rfl rfl ⟨_, _, rfl⟩ rfl rfl ?_
          refine go_if_ne 103 dX11_copy_94 (by decide) (fun c_94 => ?_) (fun c_94 => ?_)
          · have g1 := stretch_ok hz (full_t3 c_82)
            have g2 := stretch_ok hy (full_t3 c_94)
            refine go_aload dX11_copy_103 rfl ?_
            refine go_getf fX11_227 dX11_copy_105 rfl rfl ?_
            refine go_iload_n dX11_copy_108 rfl ?_
            refine go_aload dX11_copy_109 rfl ?_
            refine go_getf fX11_227 dX11_copy_111 rfl rfl ?_
            refine go_iload dX11_copy_114 rfl ?_
            refine go_iload dX11_copy_116 rfl ?_
            refine go_copyI dX11_copy_118 lX11_278 rfl rfl g1.1 g2.1 g1.2.1 g1.2.2 g2.2.2 cpN cpS in_J10 (Nat.le_of_ble_eq_true rfl) (Nat.le_of_ble_eq_true rfl) ?_
            refine go_iconst (1) dX11_copy_121 (by decide) ?_
            refine go_ireturn dX11_copy_122 rfl rfl (Nat.le_of_ble_eq_true rfl) (Nat.le_of_ble_eq_true rfl) ?_
            exact Or.inr (Or.inr (Or.inr ⟨fun q => q.elim (fun q => q c_38) (fun q => q c_46), c_65, fun q => q.elim (full_t3 c_82) (full_t3 c_94), rfl, rfl⟩))
          · refine go_aload_n dX11_copy_97 rfl ?_
            refine go_iconst (2) dX11_copy_98 (by decide) ?_
            refine go_callVsw (z := MX11_finding) dX11_copy_99 lX11_223 sX11_finding (ev_X11_finding t0 t1 G N T C D P S H0 H1 H2 H3 ta lf (2)) rfl rfl rfl ⟨_, _, rfl⟩ rfl rfl rfl ?_
            refine go_ireturn dX11_copy_102 rfl rfl (Nat.le_of_ble_eq_true rfl) (Nat.le_of_ble_eq_true rfl) ?_
            exact Or.inr (Or.inr (Or.inl ⟨fun q => q.elim (fun q => q c_38) (fun q => q c_46), c_65, by first | exact Or.inr (full_t2 c_94) | exact Or.inl (full_t2 c_82), rfl, rfl⟩))
      · refine go_aload_n dX11_copy_68 rfl ?_
        refine go_iconst (4) dX11_copy_69 (by decide) ?_
        refine go_callVsw (z := MX11_finding) dX11_copy_70 lX11_223 sX11_finding (ev_X11_finding t0 t1 G N T C D P S H0 H1 H2 H3 ta lf (4)) rfl rfl rfl ⟨_, _, rfl⟩ rfl rfl rfl ?_
        refine go_ireturn dX11_copy_73 rfl rfl (Nat.le_of_ble_eq_true rfl) (Nat.le_of_ble_eq_true rfl) ?_
        exact Or.inr (Or.inl ⟨fun q => q.elim (fun q => q c_38) (fun q => q c_46), c_65, rfl, rfl⟩)
    · refine go_aload_n dX11_copy_49 rfl ?_
      refine go_iconst (1) dX11_copy_50 (by decide) ?_
      refine go_callVsw (z := MX11_finding) dX11_copy_51 lX11_223 sX11_finding (ev_X11_finding t0 t1 G N T C D P S H0 H1 H2 H3 ta lf (1)) rfl rfl rfl ⟨_, _, rfl⟩ rfl rfl rfl ?_
      refine go_ireturn dX11_copy_54 rfl rfl (Nat.le_of_ble_eq_true rfl) (Nat.le_of_ble_eq_true rfl) ?_
      exact Or.inl ⟨by first | exact Or.inl c_38 | exact Or.inr c_46, rfl, rfl⟩
set_option maxRecDepth 100000 in
theorem ev_copy03 (t0 t1 : TX) (G N : TG) (T : TT) (C D : TC) (P : TP) (S : TS) (H0 H1 H2 H3 : TH) (ta : Nat → Int32) (lf : Int32) (i j n : Int32) (hz : H0.2.2.1 ≤ 60) (hy : H3.2.2.1 ≤ 60) : Ev MX11_copy [.ref 0, .int 0, .int i, .int 3, .int j, .int n] (cwd t0 t1 G N T C D P S H0 H1 H2 H3 ta lf) (fun v w => (¬ H0.1 = 0 ∨ ¬ H3.1 = 0) ∧ v = some (.int (-11)) ∧ w = (cwd t0 t1 G N T C D P S H0 H1 H2 H3 ta 1) ∨ ¬ (¬ H0.1 = 0 ∨ ¬ H3.1 = 0) ∧ ¬ H0.2.1 = H3.2.1 ∧ v = some (.int (-14)) ∧ w = (cwd t0 t1 G N T C D P S H0 H1 H2 H3 ta 4) ∨ ¬ (¬ H0.1 = 0 ∨ ¬ H3.1 = 0) ∧ H0.2.1 = H3.2.1 ∧ ((i < 0 ∨ n < 0 ∨ nI H0.2.2.1 < i ∨ nI H0.2.2.1 - i < n) ∨ (j < 0 ∨ n < 0 ∨ nI H3.2.2.1 < j ∨ nI H3.2.2.1 - j < n)) ∧ v = some (.int (-12)) ∧ w = (cwd t0 t1 G N T C D P S H0 H1 H2 H3 ta 2) ∨ ¬ (¬ H0.1 = 0 ∨ ¬ H3.1 = 0) ∧ H0.2.1 = H3.2.1 ∧ ¬ ((i < 0 ∨ n < 0 ∨ nI H0.2.2.1 < i ∨ nI H0.2.2.1 - i < n) ∨ (j < 0 ∨ n < 0 ∨ nI H3.2.2.1 < j ∨ nI H3.2.2.1 - j < n)) ∧ v = some (.int 1) ∧ w = (cwd t0 t1 G N T C D P S H0 H1 H2 (H3.1, H3.2.1, H3.2.2.1, va_cpy H0.2.2.2 H3.2.2.2 i.toNatClampNeg j.toNatClampNeg n.toNatClampNeg) ta lf)) := by
  refine ev_of bX11_copy [some (.ref 0), some (.int 0), some (.int i), some (.int 3), some (.int j), some (.int n), none, none] (Nat.le_of_ble_eq_true rfl) rfl ?_
  refine go_iload_n dX11_copy_0 rfl ?_
  refine go_callSi (z := MX11_isSheet) [] dX11_copy_1 lX11_216 sX11_isSheet (ev_X11_isSheet _) rfl rfl rfl rfl rfl rfl ?_
  refine go_if_eq 14 dX11_copy_4 (by decide) (fun c_4 => absurd c_4 (by decide)) (fun _ => ?_)
  refine go_iload_n dX11_copy_7 rfl ?_
  refine go_callSi (z := MX11_isSheet) [] dX11_copy_8 lX11_216 sX11_isSheet (ev_X11_isSheet _) rfl rfl rfl rfl rfl rfl ?_
  refine go_if_ne 17 dX11_copy_11 (by decide) (fun _ => ?_) (fun c_11 => absurd c_11 (by decide))
  refine go_aload_n dX11_copy_17 rfl ?_
  refine go_getf fX11_68 dX11_copy_18 rfl rfl ?_
  refine go_iload_n dX11_copy_21 rfl ?_
  refine go_aald dX11_copy_22 rfl (vp_in_nI (n := 0) (by decide) (by decide)) rfl ?_
  refine go_astore dX11_copy_23 (by decide) ?_
  refine go_aload_n dX11_copy_25 rfl ?_
  refine go_getf fX11_68 dX11_copy_26 rfl rfl ?_
  refine go_iload_n dX11_copy_29 rfl ?_
  refine go_aald dX11_copy_30 rfl (vp_in_nI (n := 3) (by decide) (by decide)) rfl ?_
  refine go_astore dX11_copy_31 (by decide) ?_
  refine go_aload dX11_copy_33 rfl ?_
  refine go_getf fX11_219 dX11_copy_35 rfl rfl ?_
  refine go_if_ne 49 dX11_copy_38 (by decide) (fun c_38 => ?_) (fun c_38 => ?_)
  · refine go_aload_n dX11_copy_49 rfl ?_
    refine go_iconst (1) dX11_copy_50 (by decide) ?_
    refine go_callVsw (z := MX11_finding) dX11_copy_51 lX11_223 sX11_finding (ev_X11_finding t0 t1 G N T C D P S H0 H1 H2 H3 ta lf (1)) rfl rfl rfl ⟨_, _, rfl⟩ rfl rfl rfl ?_
    refine go_ireturn dX11_copy_54 rfl rfl (Nat.le_of_ble_eq_true rfl) (Nat.le_of_ble_eq_true rfl) ?_
    exact Or.inl ⟨by first | exact Or.inl c_38 | exact Or.inr c_46, rfl, rfl⟩
  · refine go_aload dX11_copy_41 rfl ?_
    refine go_getf fX11_219 dX11_copy_43 rfl rfl ?_
    refine go_if_eq 55 dX11_copy_46 (by decide) (fun c_46 => ?_) (fun c_46 => ?_)
    · refine go_aload dX11_copy_55 rfl ?_
      refine go_getf fX11_272 dX11_copy_57 rfl rfl ?_
      refine go_aload dX11_copy_60 rfl ?_
      refine go_getf fX11_272 dX11_copy_62 rfl rfl ?_
      refine go_icmp_eq 74 dX11_copy_65 (by decide) (fun c_65 => ?_) (fun c_65 => ?_)
      · refine go_aload dX11_copy_74 rfl ?_
        refine go_iload_n dX11_copy_76 rfl ?_
        refine go_iload dX11_copy_77 rfl ?_
        refine go_callVi (z := MX6_hasStretch) [36, 37] dX11_copy_79 lX11_275 sX6_hasStretch (ev_X6_hasStretch _ _ _ i n _) rfl rfl rfl rfl rfl ⟨_, _, rfl⟩ rfl rfl ?_
        refine go_if_eq 97 dX11_copy_82 (by decide) (fun c_82 => ?_) (fun c_82 => ?_)
        · refine go_aload_n dX11_copy_97 rfl ?_
          refine go_iconst (2) dX11_copy_98 (by decide) ?_
          refine go_callVsw (z := MX11_finding) dX11_copy_99 lX11_223 sX11_finding (ev_X11_finding t0 t1 G N T C D P S H0 H1 H2 H3 ta lf (2)) rfl rfl rfl ⟨_, _, rfl⟩ rfl rfl rfl ?_
          refine go_ireturn dX11_copy_102 rfl rfl (Nat.le_of_ble_eq_true rfl) (Nat.le_of_ble_eq_true rfl) ?_
          exact Or.inr (Or.inr (Or.inl ⟨fun q => q.elim (fun q => q c_38) (fun q => q c_46), c_65, by first | exact Or.inr (full_t2 c_94) | exact Or.inl (full_t2 c_82), rfl, rfl⟩))
        · refine go_aload dX11_copy_85 rfl ?_
          refine go_iload dX11_copy_87 rfl ?_
          refine go_iload dX11_copy_89 rfl ?_
          refine go_callVi (z := MX6_hasStretch) [42, 43] dX11_copy_91 lX11_275 sX6_hasStretch (ev_X6_hasStretch _ _ _ j n _) rfl rfl rfl rfl rfl ⟨_, _, rfl⟩ rfl rfl ?_
          refine go_if_ne 103 dX11_copy_94 (by decide) (fun c_94 => ?_) (fun c_94 => ?_)
          · have g1 := stretch_ok hz (full_t3 c_82)
            have g2 := stretch_ok hy (full_t3 c_94)
            refine go_aload dX11_copy_103 rfl ?_
            refine go_getf fX11_227 dX11_copy_105 rfl rfl ?_
            refine go_iload_n dX11_copy_108 rfl ?_
            refine go_aload dX11_copy_109 rfl ?_
            refine go_getf fX11_227 dX11_copy_111 rfl rfl ?_
            refine go_iload dX11_copy_114 rfl ?_
            refine go_iload dX11_copy_116 rfl ?_
            refine go_copyI dX11_copy_118 lX11_278 rfl rfl g1.1 g2.1 g1.2.1 g1.2.2 g2.2.2 cpN cpS in_J10 (Nat.le_of_ble_eq_true rfl) (Nat.le_of_ble_eq_true rfl) ?_
            refine go_iconst (1) dX11_copy_121 (by decide) ?_
            refine go_ireturn dX11_copy_122 rfl rfl (Nat.le_of_ble_eq_true rfl) (Nat.le_of_ble_eq_true rfl) ?_
            exact Or.inr (Or.inr (Or.inr ⟨fun q => q.elim (fun q => q c_38) (fun q => q c_46), c_65, fun q => q.elim (full_t3 c_82) (full_t3 c_94), rfl, rfl⟩))
          · refine go_aload_n dX11_copy_97 rfl ?_
            refine go_iconst (2) dX11_copy_98 (by decide) ?_
            refine go_callVsw (z := MX11_finding) dX11_copy_99 lX11_223 sX11_finding (ev_X11_finding t0 t1 G N T C D P S H0 H1 H2 H3 ta lf (2)) rfl rfl rfl ⟨_, _, rfl⟩ rfl rfl rfl ?_
            refine go_ireturn dX11_copy_102 rfl rfl (Nat.le_of_ble_eq_true rfl) (Nat.le_of_ble_eq_true rfl) ?_
            exact Or.inr (Or.inr (Or.inl ⟨fun q => q.elim (fun q => q c_38) (fun q => q c_46), c_65, by first | exact Or.inr (full_t2 c_94) | exact Or.inl (full_t2 c_82), rfl, rfl⟩))
      · refine go_aload_n dX11_copy_68 rfl ?_
        refine go_iconst (4) dX11_copy_69 (by decide) ?_
        refine go_callVsw (z := MX11_finding) dX11_copy_70 lX11_223 sX11_finding (ev_X11_finding t0 t1 G N T C D P S H0 H1 H2 H3 ta lf (4)) rfl rfl rfl ⟨_, _, rfl⟩ rfl rfl rfl ?_
        refine go_ireturn dX11_copy_73 rfl rfl (Nat.le_of_ble_eq_true rfl) (Nat.le_of_ble_eq_true rfl) ?_
        exact Or.inr (Or.inl ⟨fun q => q.elim (fun q => q c_38) (fun q => q c_46), c_65, rfl, rfl⟩)
    · refine go_aload_n dX11_copy_49 rfl ?_
      refine go_iconst (1) dX11_copy_50 (by decide) ?_
      refine go_callVsw (z := MX11_finding) dX11_copy_51 lX11_223 sX11_finding (ev_X11_finding t0 t1 G N T C D P S H0 H1 H2 H3 ta lf (1)) rfl rfl rfl ⟨_, _, rfl⟩ rfl rfl rfl ?_
      refine go_ireturn dX11_copy_54 rfl rfl (Nat.le_of_ble_eq_true rfl) (Nat.le_of_ble_eq_true rfl) ?_
      exact Or.inl ⟨by first | exact Or.inl c_38 | exact Or.inr c_46, rfl, rfl⟩
set_option maxRecDepth 100000 in
theorem ev_copy10 (t0 t1 : TX) (G N : TG) (T : TT) (C D : TC) (P : TP) (S : TS) (H0 H1 H2 H3 : TH) (ta : Nat → Int32) (lf : Int32) (i j n : Int32) (hz : H1.2.2.1 ≤ 60) (hy : H0.2.2.1 ≤ 60) : Ev MX11_copy [.ref 0, .int 1, .int i, .int 0, .int j, .int n] (cwd t0 t1 G N T C D P S H0 H1 H2 H3 ta lf) (fun v w => (¬ H1.1 = 0 ∨ ¬ H0.1 = 0) ∧ v = some (.int (-11)) ∧ w = (cwd t0 t1 G N T C D P S H0 H1 H2 H3 ta 1) ∨ ¬ (¬ H1.1 = 0 ∨ ¬ H0.1 = 0) ∧ ¬ H1.2.1 = H0.2.1 ∧ v = some (.int (-14)) ∧ w = (cwd t0 t1 G N T C D P S H0 H1 H2 H3 ta 4) ∨ ¬ (¬ H1.1 = 0 ∨ ¬ H0.1 = 0) ∧ H1.2.1 = H0.2.1 ∧ ((i < 0 ∨ n < 0 ∨ nI H1.2.2.1 < i ∨ nI H1.2.2.1 - i < n) ∨ (j < 0 ∨ n < 0 ∨ nI H0.2.2.1 < j ∨ nI H0.2.2.1 - j < n)) ∧ v = some (.int (-12)) ∧ w = (cwd t0 t1 G N T C D P S H0 H1 H2 H3 ta 2) ∨ ¬ (¬ H1.1 = 0 ∨ ¬ H0.1 = 0) ∧ H1.2.1 = H0.2.1 ∧ ¬ ((i < 0 ∨ n < 0 ∨ nI H1.2.2.1 < i ∨ nI H1.2.2.1 - i < n) ∨ (j < 0 ∨ n < 0 ∨ nI H0.2.2.1 < j ∨ nI H0.2.2.1 - j < n)) ∧ v = some (.int 1) ∧ w = (cwd t0 t1 G N T C D P S (H0.1, H0.2.1, H0.2.2.1, va_cpy H1.2.2.2 H0.2.2.2 i.toNatClampNeg j.toNatClampNeg n.toNatClampNeg) H1 H2 H3 ta lf)) := by
  refine ev_of bX11_copy [some (.ref 0), some (.int 1), some (.int i), some (.int 0), some (.int j), some (.int n), none, none] (Nat.le_of_ble_eq_true rfl) rfl ?_
  refine go_iload_n dX11_copy_0 rfl ?_
  refine go_callSi (z := MX11_isSheet) [] dX11_copy_1 lX11_216 sX11_isSheet (ev_X11_isSheet _) rfl rfl rfl rfl rfl rfl ?_
  refine go_if_eq 14 dX11_copy_4 (by decide) (fun c_4 => absurd c_4 (by decide)) (fun _ => ?_)
  refine go_iload_n dX11_copy_7 rfl ?_
  refine go_callSi (z := MX11_isSheet) [] dX11_copy_8 lX11_216 sX11_isSheet (ev_X11_isSheet _) rfl rfl rfl rfl rfl rfl ?_
  refine go_if_ne 17 dX11_copy_11 (by decide) (fun _ => ?_) (fun c_11 => absurd c_11 (by decide))
  refine go_aload_n dX11_copy_17 rfl ?_
  refine go_getf fX11_68 dX11_copy_18 rfl rfl ?_
  refine go_iload_n dX11_copy_21 rfl ?_
  refine go_aald dX11_copy_22 rfl (vp_in_nI (n := 1) (by decide) (by decide)) rfl ?_
  refine go_astore dX11_copy_23 (by decide) ?_
  refine go_aload_n dX11_copy_25 rfl ?_
  refine go_getf fX11_68 dX11_copy_26 rfl rfl ?_
  refine go_iload_n dX11_copy_29 rfl ?_
  refine go_aald dX11_copy_30 rfl (vp_in_nI (n := 0) (by decide) (by decide)) rfl ?_
  refine go_astore dX11_copy_31 (by decide) ?_
  refine go_aload dX11_copy_33 rfl ?_
  refine go_getf fX11_219 dX11_copy_35 rfl rfl ?_
  refine go_if_ne 49 dX11_copy_38 (by decide) (fun c_38 => ?_) (fun c_38 => ?_)
  · refine go_aload_n dX11_copy_49 rfl ?_
    refine go_iconst (1) dX11_copy_50 (by decide) ?_
    refine go_callVsw (z := MX11_finding) dX11_copy_51 lX11_223 sX11_finding (ev_X11_finding t0 t1 G N T C D P S H0 H1 H2 H3 ta lf (1)) rfl rfl rfl ⟨_, _, rfl⟩ rfl rfl rfl ?_
    refine go_ireturn dX11_copy_54 rfl rfl (Nat.le_of_ble_eq_true rfl) (Nat.le_of_ble_eq_true rfl) ?_
    exact Or.inl ⟨by first | exact Or.inl c_38 | exact Or.inr c_46, rfl, rfl⟩
  · refine go_aload dX11_copy_41 rfl ?_
    refine go_getf fX11_219 dX11_copy_43 rfl rfl ?_
    refine go_if_eq 55 dX11_copy_46 (by decide) (fun c_46 => ?_) (fun c_46 => ?_)
    · refine go_aload dX11_copy_55 rfl ?_
      refine go_getf fX11_272 dX11_copy_57 rfl rfl ?_
      refine go_aload dX11_copy_60 rfl ?_
      refine go_getf fX11_272 dX11_copy_62 rfl rfl ?_
      refine go_icmp_eq 74 dX11_copy_65 (by decide) (fun c_65 => ?_) (fun c_65 => ?_)
      · refine go_aload dX11_copy_74 rfl ?_
        refine go_iload_n dX11_copy_76 rfl ?_
        refine go_iload dX11_copy_77 rfl ?_
        refine go_callVi (z := MX6_hasStretch) [38, 39] dX11_copy_79 lX11_275 sX6_hasStretch (ev_X6_hasStretch _ _ _ i n _) rfl rfl rfl rfl rfl ⟨_, _, rfl⟩ rfl rfl ?_
        refine go_if_eq 97 dX11_copy_82 (by decide) (fun c_82 => ?_) (fun c_82 => ?_)
        · refine go_aload_n dX11_copy_97 rfl ?_
          refine go_iconst (2) dX11_copy_98 (by decide) ?_
          refine go_callVsw (z := MX11_finding) dX11_copy_99 lX11_223 sX11_finding (ev_X11_finding t0 t1 G N T C D P S H0 H1 H2 H3 ta lf (2)) rfl rfl rfl ⟨_, _, rfl⟩ rfl rfl rfl ?_
          refine go_ireturn dX11_copy_102 rfl rfl (Nat.le_of_ble_eq_true rfl) (Nat.le_of_ble_eq_true rfl) ?_
          exact Or.inr (Or.inr (Or.inl ⟨fun q => q.elim (fun q => q c_38) (fun q => q c_46), c_65, by first | exact Or.inr (full_t2 c_94) | exact Or.inl (full_t2 c_82), rfl, rfl⟩))
        · refine go_aload dX11_copy_85 rfl ?_
          refine go_iload dX11_copy_87 rfl ?_
          refine go_iload dX11_copy_89 rfl ?_
          refine go_callVi (z := MX6_hasStretch) [36, 37] dX11_copy_91 lX11_275 sX6_hasStretch (ev_X6_hasStretch _ _ _ j n _) rfl rfl rfl rfl rfl ⟨_, _, rfl⟩ rfl rfl ?_
          refine go_if_ne 103 dX11_copy_94 (by decide) (fun c_94 => ?_) (fun c_94 => ?_)
          · have g1 := stretch_ok hz (full_t3 c_82)
            have g2 := stretch_ok hy (full_t3 c_94)
            refine go_aload dX11_copy_103 rfl ?_
            refine go_getf fX11_227 dX11_copy_105 rfl rfl ?_
            refine go_iload_n dX11_copy_108 rfl ?_
            refine go_aload dX11_copy_109 rfl ?_
            refine go_getf fX11_227 dX11_copy_111 rfl rfl ?_
            refine go_iload dX11_copy_114 rfl ?_
            refine go_iload dX11_copy_116 rfl ?_
            refine go_copyI dX11_copy_118 lX11_278 rfl rfl g1.1 g2.1 g1.2.1 g1.2.2 g2.2.2 cpN cpS in_J10 (Nat.le_of_ble_eq_true rfl) (Nat.le_of_ble_eq_true rfl) ?_
            refine go_iconst (1) dX11_copy_121 (by decide) ?_
            refine go_ireturn dX11_copy_122 rfl rfl (Nat.le_of_ble_eq_true rfl) (Nat.le_of_ble_eq_true rfl) ?_
            exact Or.inr (Or.inr (Or.inr ⟨fun q => q.elim (fun q => q c_38) (fun q => q c_46), c_65, fun q => q.elim (full_t3 c_82) (full_t3 c_94), rfl, rfl⟩))
          · refine go_aload_n dX11_copy_97 rfl ?_
            refine go_iconst (2) dX11_copy_98 (by decide) ?_
            refine go_callVsw (z := MX11_finding) dX11_copy_99 lX11_223 sX11_finding (ev_X11_finding t0 t1 G N T C D P S H0 H1 H2 H3 ta lf (2)) rfl rfl rfl ⟨_, _, rfl⟩ rfl rfl rfl ?_
            refine go_ireturn dX11_copy_102 rfl rfl (Nat.le_of_ble_eq_true rfl) (Nat.le_of_ble_eq_true rfl) ?_
            exact Or.inr (Or.inr (Or.inl ⟨fun q => q.elim (fun q => q c_38) (fun q => q c_46), c_65, by first | exact Or.inr (full_t2 c_94) | exact Or.inl (full_t2 c_82), rfl, rfl⟩))
      · refine go_aload_n dX11_copy_68 rfl ?_
        refine go_iconst (4) dX11_copy_69 (by decide) ?_
        refine go_callVsw (z := MX11_finding) dX11_copy_70 lX11_223 sX11_finding (ev_X11_finding t0 t1 G N T C D P S H0 H1 H2 H3 ta lf (4)) rfl rfl rfl ⟨_, _, rfl⟩ rfl rfl rfl ?_
        refine go_ireturn dX11_copy_73 rfl rfl (Nat.le_of_ble_eq_true rfl) (Nat.le_of_ble_eq_true rfl) ?_
        exact Or.inr (Or.inl ⟨fun q => q.elim (fun q => q c_38) (fun q => q c_46), c_65, rfl, rfl⟩)
    · refine go_aload_n dX11_copy_49 rfl ?_
      refine go_iconst (1) dX11_copy_50 (by decide) ?_
      refine go_callVsw (z := MX11_finding) dX11_copy_51 lX11_223 sX11_finding (ev_X11_finding t0 t1 G N T C D P S H0 H1 H2 H3 ta lf (1)) rfl rfl rfl ⟨_, _, rfl⟩ rfl rfl rfl ?_
      refine go_ireturn dX11_copy_54 rfl rfl (Nat.le_of_ble_eq_true rfl) (Nat.le_of_ble_eq_true rfl) ?_
      exact Or.inl ⟨by first | exact Or.inl c_38 | exact Or.inr c_46, rfl, rfl⟩
set_option maxRecDepth 100000 in
theorem ev_copy11 (t0 t1 : TX) (G N : TG) (T : TT) (C D : TC) (P : TP) (S : TS) (H0 H1 H2 H3 : TH) (ta : Nat → Int32) (lf : Int32) (i j n : Int32) (hz : H1.2.2.1 ≤ 60) (hy : H1.2.2.1 ≤ 60) : Ev MX11_copy [.ref 0, .int 1, .int i, .int 1, .int j, .int n] (cwd t0 t1 G N T C D P S H0 H1 H2 H3 ta lf) (fun v w => (¬ H1.1 = 0 ∨ ¬ H1.1 = 0) ∧ v = some (.int (-11)) ∧ w = (cwd t0 t1 G N T C D P S H0 H1 H2 H3 ta 1) ∨ ¬ (¬ H1.1 = 0 ∨ ¬ H1.1 = 0) ∧ ¬ H1.2.1 = H1.2.1 ∧ v = some (.int (-14)) ∧ w = (cwd t0 t1 G N T C D P S H0 H1 H2 H3 ta 4) ∨ ¬ (¬ H1.1 = 0 ∨ ¬ H1.1 = 0) ∧ H1.2.1 = H1.2.1 ∧ ((i < 0 ∨ n < 0 ∨ nI H1.2.2.1 < i ∨ nI H1.2.2.1 - i < n) ∨ (j < 0 ∨ n < 0 ∨ nI H1.2.2.1 < j ∨ nI H1.2.2.1 - j < n)) ∧ v = some (.int (-12)) ∧ w = (cwd t0 t1 G N T C D P S H0 H1 H2 H3 ta 2) ∨ ¬ (¬ H1.1 = 0 ∨ ¬ H1.1 = 0) ∧ H1.2.1 = H1.2.1 ∧ ¬ ((i < 0 ∨ n < 0 ∨ nI H1.2.2.1 < i ∨ nI H1.2.2.1 - i < n) ∨ (j < 0 ∨ n < 0 ∨ nI H1.2.2.1 < j ∨ nI H1.2.2.1 - j < n)) ∧ v = some (.int 1) ∧ w = (cwd t0 t1 G N T C D P S H0 (H1.1, H1.2.1, H1.2.2.1, va_cpy H1.2.2.2 H1.2.2.2 i.toNatClampNeg j.toNatClampNeg n.toNatClampNeg) H2 H3 ta lf)) := by
  refine ev_of bX11_copy [some (.ref 0), some (.int 1), some (.int i), some (.int 1), some (.int j), some (.int n), none, none] (Nat.le_of_ble_eq_true rfl) rfl ?_
  refine go_iload_n dX11_copy_0 rfl ?_
  refine go_callSi (z := MX11_isSheet) [] dX11_copy_1 lX11_216 sX11_isSheet (ev_X11_isSheet _) rfl rfl rfl rfl rfl rfl ?_
  refine go_if_eq 14 dX11_copy_4 (by decide) (fun c_4 => absurd c_4 (by decide)) (fun _ => ?_)
  refine go_iload_n dX11_copy_7 rfl ?_
  refine go_callSi (z := MX11_isSheet) [] dX11_copy_8 lX11_216 sX11_isSheet (ev_X11_isSheet _) rfl rfl rfl rfl rfl rfl ?_
  refine go_if_ne 17 dX11_copy_11 (by decide) (fun _ => ?_) (fun c_11 => absurd c_11 (by decide))
  refine go_aload_n dX11_copy_17 rfl ?_
  refine go_getf fX11_68 dX11_copy_18 rfl rfl ?_
  refine go_iload_n dX11_copy_21 rfl ?_
  refine go_aald dX11_copy_22 rfl (vp_in_nI (n := 1) (by decide) (by decide)) rfl ?_
  refine go_astore dX11_copy_23 (by decide) ?_
  refine go_aload_n dX11_copy_25 rfl ?_
  refine go_getf fX11_68 dX11_copy_26 rfl rfl ?_
  refine go_iload_n dX11_copy_29 rfl ?_
  refine go_aald dX11_copy_30 rfl (vp_in_nI (n := 1) (by decide) (by decide)) rfl ?_
  refine go_astore dX11_copy_31 (by decide) ?_
  refine go_aload dX11_copy_33 rfl ?_
  refine go_getf fX11_219 dX11_copy_35 rfl rfl ?_
  refine go_if_ne 49 dX11_copy_38 (by decide) (fun c_38 => ?_) (fun c_38 => ?_)
  · refine go_aload_n dX11_copy_49 rfl ?_
    refine go_iconst (1) dX11_copy_50 (by decide) ?_
    refine go_callVsw (z := MX11_finding) dX11_copy_51 lX11_223 sX11_finding (ev_X11_finding t0 t1 G N T C D P S H0 H1 H2 H3 ta lf (1)) rfl rfl rfl ⟨_, _, rfl⟩ rfl rfl rfl ?_
    refine go_ireturn dX11_copy_54 rfl rfl (Nat.le_of_ble_eq_true rfl) (Nat.le_of_ble_eq_true rfl) ?_
    exact Or.inl ⟨by first | exact Or.inl c_38 | exact Or.inr c_46, rfl, rfl⟩
  · refine go_aload dX11_copy_41 rfl ?_
    refine go_getf fX11_219 dX11_copy_43 rfl rfl ?_
    refine go_if_eq 55 dX11_copy_46 (by decide) (fun c_46 => ?_) (fun c_46 => ?_)
    · refine go_aload dX11_copy_55 rfl ?_
      refine go_getf fX11_272 dX11_copy_57 rfl rfl ?_
      refine go_aload dX11_copy_60 rfl ?_
      refine go_getf fX11_272 dX11_copy_62 rfl rfl ?_
      refine go_icmp_eq 74 dX11_copy_65 (by decide) (fun c_65 => ?_) (fun c_65 => ?_)
      · refine go_aload dX11_copy_74 rfl ?_
        refine go_iload_n dX11_copy_76 rfl ?_
        refine go_iload dX11_copy_77 rfl ?_
        refine go_callVi (z := MX6_hasStretch) [38, 39] dX11_copy_79 lX11_275 sX6_hasStretch (ev_X6_hasStretch _ _ _ i n _) rfl rfl rfl rfl rfl ⟨_, _, rfl⟩ rfl rfl ?_
        refine go_if_eq 97 dX11_copy_82 (by decide) (fun c_82 => ?_) (fun c_82 => ?_)
        · refine go_aload_n dX11_copy_97 rfl ?_
          refine go_iconst (2) dX11_copy_98 (by decide) ?_
          refine go_callVsw (z := MX11_finding) dX11_copy_99 lX11_223 sX11_finding (ev_X11_finding t0 t1 G N T C D P S H0 H1 H2 H3 ta lf (2)) rfl rfl rfl ⟨_, _, rfl⟩ rfl rfl rfl ?_
          refine go_ireturn dX11_copy_102 rfl rfl (Nat.le_of_ble_eq_true rfl) (Nat.le_of_ble_eq_true rfl) ?_
          exact Or.inr (Or.inr (Or.inl ⟨fun q => q.elim (fun q => q c_38) (fun q => q c_46), c_65, by first | exact Or.inr (full_t2 c_94) | exact Or.inl (full_t2 c_82), rfl, rfl⟩))
        · refine go_aload dX11_copy_85 rfl ?_
          refine go_iload dX11_copy_87 rfl ?_
          refine go_iload dX11_copy_89 rfl ?_
          refine go_callVi (z := MX6_hasStretch) [38, 39] dX11_copy_91 lX11_275 sX6_hasStretch (ev_X6_hasStretch _ _ _ j n _) rfl rfl rfl rfl rfl ⟨_, _, rfl⟩ rfl rfl ?_
          refine go_if_ne 103 dX11_copy_94 (by decide) (fun c_94 => ?_) (fun c_94 => ?_)
          · have g1 := stretch_ok hz (full_t3 c_82)
            have g2 := stretch_ok hy (full_t3 c_94)
            refine go_aload dX11_copy_103 rfl ?_
            refine go_getf fX11_227 dX11_copy_105 rfl rfl ?_
            refine go_iload_n dX11_copy_108 rfl ?_
            refine go_aload dX11_copy_109 rfl ?_
            refine go_getf fX11_227 dX11_copy_111 rfl rfl ?_
            refine go_iload dX11_copy_114 rfl ?_
            refine go_iload dX11_copy_116 rfl ?_
            refine go_copyI dX11_copy_118 lX11_278 rfl rfl g1.1 g2.1 g1.2.1 g1.2.2 g2.2.2 cpN cpS in_J10 (Nat.le_of_ble_eq_true rfl) (Nat.le_of_ble_eq_true rfl) ?_
            refine go_iconst (1) dX11_copy_121 (by decide) ?_
            refine go_ireturn dX11_copy_122 rfl rfl (Nat.le_of_ble_eq_true rfl) (Nat.le_of_ble_eq_true rfl) ?_
            exact Or.inr (Or.inr (Or.inr ⟨fun q => q.elim (fun q => q c_38) (fun q => q c_46), c_65, fun q => q.elim (full_t3 c_82) (full_t3 c_94), rfl, rfl⟩))
          · refine go_aload_n dX11_copy_97 rfl ?_
            refine go_iconst (2) dX11_copy_98 (by decide) ?_
            refine go_callVsw (z := MX11_finding) dX11_copy_99 lX11_223 sX11_finding (ev_X11_finding t0 t1 G N T C D P S H0 H1 H2 H3 ta lf (2)) rfl rfl rfl ⟨_, _, rfl⟩ rfl rfl rfl ?_
            refine go_ireturn dX11_copy_102 rfl rfl (Nat.le_of_ble_eq_true rfl) (Nat.le_of_ble_eq_true rfl) ?_
            exact Or.inr (Or.inr (Or.inl ⟨fun q => q.elim (fun q => q c_38) (fun q => q c_46), c_65, by first | exact Or.inr (full_t2 c_94) | exact Or.inl (full_t2 c_82), rfl, rfl⟩))
      · refine go_aload_n dX11_copy_68 rfl ?_
        refine go_iconst (4) dX11_copy_69 (by decide) ?_
        refine go_callVsw (z := MX11_finding) dX11_copy_70 lX11_223 sX11_finding (ev_X11_finding t0 t1 G N T C D P S H0 H1 H2 H3 ta lf (4)) rfl rfl rfl ⟨_, _, rfl⟩ rfl rfl rfl ?_
        refine go_ireturn dX11_copy_73 rfl rfl (Nat.le_of_ble_eq_true rfl) (Nat.le_of_ble_eq_true rfl) ?_
        exact Or.inr (Or.inl ⟨fun q => q.elim (fun q => q c_38) (fun q => q c_46), c_65, rfl, rfl⟩)
    · refine go_aload_n dX11_copy_49 rfl ?_
      refine go_iconst (1) dX11_copy_50 (by decide) ?_
      refine go_callVsw (z := MX11_finding) dX11_copy_51 lX11_223 sX11_finding (ev_X11_finding t0 t1 G N T C D P S H0 H1 H2 H3 ta lf (1)) rfl rfl rfl ⟨_, _, rfl⟩ rfl rfl rfl ?_
      refine go_ireturn dX11_copy_54 rfl rfl (Nat.le_of_ble_eq_true rfl) (Nat.le_of_ble_eq_true rfl) ?_
      exact Or.inl ⟨by first | exact Or.inl c_38 | exact Or.inr c_46, rfl, rfl⟩
set_option maxRecDepth 100000 in
theorem ev_copy12 (t0 t1 : TX) (G N : TG) (T : TT) (C D : TC) (P : TP) (S : TS) (H0 H1 H2 H3 : TH) (ta : Nat → Int32) (lf : Int32) (i j n : Int32) (hz : H1.2.2.1 ≤ 60) (hy : H2.2.2.1 ≤ 60) : Ev MX11_copy [.ref 0, .int 1, .int i, .int 2, .int j, .int n] (cwd t0 t1 G N T C D P S H0 H1 H2 H3 ta lf) (fun v w => (¬ H1.1 = 0 ∨ ¬ H2.1 = 0) ∧ v = some (.int (-11)) ∧ w = (cwd t0 t1 G N T C D P S H0 H1 H2 H3 ta 1) ∨ ¬ (¬ H1.1 = 0 ∨ ¬ H2.1 = 0) ∧ ¬ H1.2.1 = H2.2.1 ∧ v = some (.int (-14)) ∧ w = (cwd t0 t1 G N T C D P S H0 H1 H2 H3 ta 4) ∨ ¬ (¬ H1.1 = 0 ∨ ¬ H2.1 = 0) ∧ H1.2.1 = H2.2.1 ∧ ((i < 0 ∨ n < 0 ∨ nI H1.2.2.1 < i ∨ nI H1.2.2.1 - i < n) ∨ (j < 0 ∨ n < 0 ∨ nI H2.2.2.1 < j ∨ nI H2.2.2.1 - j < n)) ∧ v = some (.int (-12)) ∧ w = (cwd t0 t1 G N T C D P S H0 H1 H2 H3 ta 2) ∨ ¬ (¬ H1.1 = 0 ∨ ¬ H2.1 = 0) ∧ H1.2.1 = H2.2.1 ∧ ¬ ((i < 0 ∨ n < 0 ∨ nI H1.2.2.1 < i ∨ nI H1.2.2.1 - i < n) ∨ (j < 0 ∨ n < 0 ∨ nI H2.2.2.1 < j ∨ nI H2.2.2.1 - j < n)) ∧ v = some (.int 1) ∧ w = (cwd t0 t1 G N T C D P S H0 H1 (H2.1, H2.2.1, H2.2.2.1, va_cpy H1.2.2.2 H2.2.2.2 i.toNatClampNeg j.toNatClampNeg n.toNatClampNeg) H3 ta lf)) := by
  refine ev_of bX11_copy [some (.ref 0), some (.int 1), some (.int i), some (.int 2), some (.int j), some (.int n), none, none] (Nat.le_of_ble_eq_true rfl) rfl ?_
  refine go_iload_n dX11_copy_0 rfl ?_
  refine go_callSi (z := MX11_isSheet) [] dX11_copy_1 lX11_216 sX11_isSheet (ev_X11_isSheet _) rfl rfl rfl rfl rfl rfl ?_
  refine go_if_eq 14 dX11_copy_4 (by decide) (fun c_4 => absurd c_4 (by decide)) (fun _ => ?_)
  refine go_iload_n dX11_copy_7 rfl ?_
  refine go_callSi (z := MX11_isSheet) [] dX11_copy_8 lX11_216 sX11_isSheet (ev_X11_isSheet _) rfl rfl rfl rfl rfl rfl ?_
  refine go_if_ne 17 dX11_copy_11 (by decide) (fun _ => ?_) (fun c_11 => absurd c_11 (by decide))
  refine go_aload_n dX11_copy_17 rfl ?_
  refine go_getf fX11_68 dX11_copy_18 rfl rfl ?_
  refine go_iload_n dX11_copy_21 rfl ?_
  refine go_aald dX11_copy_22 rfl (vp_in_nI (n := 1) (by decide) (by decide)) rfl ?_
  refine go_astore dX11_copy_23 (by decide) ?_
  refine go_aload_n dX11_copy_25 rfl ?_
  refine go_getf fX11_68 dX11_copy_26 rfl rfl ?_
  refine go_iload_n dX11_copy_29 rfl ?_
  refine go_aald dX11_copy_30 rfl (vp_in_nI (n := 2) (by decide) (by decide)) rfl ?_
  refine go_astore dX11_copy_31 (by decide) ?_
  refine go_aload dX11_copy_33 rfl ?_
  refine go_getf fX11_219 dX11_copy_35 rfl rfl ?_
  refine go_if_ne 49 dX11_copy_38 (by decide) (fun c_38 => ?_) (fun c_38 => ?_)
  · refine go_aload_n dX11_copy_49 rfl ?_
    refine go_iconst (1) dX11_copy_50 (by decide) ?_
    refine go_callVsw (z := MX11_finding) dX11_copy_51 lX11_223 sX11_finding (ev_X11_finding t0 t1 G N T C D P S H0 H1 H2 H3 ta lf (1)) rfl rfl rfl ⟨_, _, rfl⟩ rfl rfl rfl ?_
    refine go_ireturn dX11_copy_54 rfl rfl (Nat.le_of_ble_eq_true rfl) (Nat.le_of_ble_eq_true rfl) ?_
    exact Or.inl ⟨by first | exact Or.inl c_38 | exact Or.inr c_46, rfl, rfl⟩
  · refine go_aload dX11_copy_41 rfl ?_
    refine go_getf fX11_219 dX11_copy_43 rfl rfl ?_
    refine go_if_eq 55 dX11_copy_46 (by decide) (fun c_46 => ?_) (fun c_46 => ?_)
    · refine go_aload dX11_copy_55 rfl ?_
      refine go_getf fX11_272 dX11_copy_57 rfl rfl ?_
      refine go_aload dX11_copy_60 rfl ?_
      refine go_getf fX11_272 dX11_copy_62 rfl rfl ?_
      refine go_icmp_eq 74 dX11_copy_65 (by decide) (fun c_65 => ?_) (fun c_65 => ?_)
      · refine go_aload dX11_copy_74 rfl ?_
        refine go_iload_n dX11_copy_76 rfl ?_
        refine go_iload dX11_copy_77 rfl ?_
        refine go_callVi (z := MX6_hasStretch) [38, 39] dX11_copy_79 lX11_275 sX6_hasStretch (ev_X6_hasStretch _ _ _ i n _) rfl rfl rfl rfl rfl ⟨_, _, rfl⟩ rfl rfl ?_
        refine go_if_eq 97 dX11_copy_82 (by decide) (fun c_82 => ?_) (fun c_82 => ?_)
        · refine go_aload_n dX11_copy_97 rfl ?_
          refine go_iconst (2) dX11_copy_98 (by decide) ?_
          refine go_callVsw (z := MX11_finding) dX11_copy_99 lX11_223 sX11_finding (ev_X11_finding t0 t1 G N T C D P S H0 H1 H2 H3 ta lf (2)) rfl rfl rfl ⟨_, _, rfl⟩ rfl rfl rfl ?_
          refine go_ireturn dX11_copy_102 rfl rfl (Nat.le_of_ble_eq_true rfl) (Nat.le_of_ble_eq_true rfl) ?_
          exact Or.inr (Or.inr (Or.inl ⟨fun q => q.elim (fun q => q c_38) (fun q => q c_46), c_65, by first | exact Or.inr (full_t2 c_94) | exact Or.inl (full_t2 c_82), rfl, rfl⟩))
        · refine go_aload dX11_copy_85 rfl ?_
          refine go_iload dX11_copy_87 rfl ?_
          refine go_iload dX11_copy_89 rfl ?_
          refine go_callVi (z := MX6_hasStretch) [40, 41] dX11_copy_91 lX11_275 sX6_hasStretch (ev_X6_hasStretch _ _ _ j n _) rfl rfl rfl rfl rfl ⟨_, _, rfl⟩ rfl rfl ?_
          refine go_if_ne 103 dX11_copy_94 (by decide) (fun c_94 => ?_) (fun c_94 => ?_)
          · have g1 := stretch_ok hz (full_t3 c_82)
            have g2 := stretch_ok hy (full_t3 c_94)
            refine go_aload dX11_copy_103 rfl ?_
            refine go_getf fX11_227 dX11_copy_105 rfl rfl ?_
            refine go_iload_n dX11_copy_108 rfl ?_
            refine go_aload dX11_copy_109 rfl ?_
            refine go_getf fX11_227 dX11_copy_111 rfl rfl ?_
            refine go_iload dX11_copy_114 rfl ?_
            refine go_iload dX11_copy_116 rfl ?_
            refine go_copyI dX11_copy_118 lX11_278 rfl rfl g1.1 g2.1 g1.2.1 g1.2.2 g2.2.2 cpN cpS in_J10 (Nat.le_of_ble_eq_true rfl) (Nat.le_of_ble_eq_true rfl) ?_
            refine go_iconst (1) dX11_copy_121 (by decide) ?_
            refine go_ireturn dX11_copy_122 rfl rfl (Nat.le_of_ble_eq_true rfl) (Nat.le_of_ble_eq_true rfl) ?_
            exact Or.inr (Or.inr (Or.inr ⟨fun q => q.elim (fun q => q c_38) (fun q => q c_46), c_65, fun q => q.elim (full_t3 c_82) (full_t3 c_94), rfl, rfl⟩))
          · refine go_aload_n dX11_copy_97 rfl ?_
            refine go_iconst (2) dX11_copy_98 (by decide) ?_
            refine go_callVsw (z := MX11_finding) dX11_copy_99 lX11_223 sX11_finding (ev_X11_finding t0 t1 G N T C D P S H0 H1 H2 H3 ta lf (2)) rfl rfl rfl ⟨_, _, rfl⟩ rfl rfl rfl ?_
            refine go_ireturn dX11_copy_102 rfl rfl (Nat.le_of_ble_eq_true rfl) (Nat.le_of_ble_eq_true rfl) ?_
            exact Or.inr (Or.inr (Or.inl ⟨fun q => q.elim (fun q => q c_38) (fun q => q c_46), c_65, by first | exact Or.inr (full_t2 c_94) | exact Or.inl (full_t2 c_82), rfl, rfl⟩))
      · refine go_aload_n dX11_copy_68 rfl ?_
        refine go_iconst (4) dX11_copy_69 (by decide) ?_
        refine go_callVsw (z := MX11_finding) dX11_copy_70 lX11_223 sX11_finding (ev_X11_finding t0 t1 G N T C D P S H0 H1 H2 H3 ta lf (4)) rfl rfl rfl ⟨_, _, rfl⟩ rfl rfl rfl ?_
        refine go_ireturn dX11_copy_73 rfl rfl (Nat.le_of_ble_eq_true rfl) (Nat.le_of_ble_eq_true rfl) ?_
        exact Or.inr (Or.inl ⟨fun q => q.elim (fun q => q c_38) (fun q => q c_46), c_65, rfl, rfl⟩)
    · refine go_aload_n dX11_copy_49 rfl ?_
      refine go_iconst (1) dX11_copy_50 (by decide) ?_
      refine go_callVsw (z := MX11_finding) dX11_copy_51 lX11_223 sX11_finding (ev_X11_finding t0 t1 G N T C D P S H0 H1 H2 H3 ta lf (1)) rfl rfl rfl ⟨_, _, rfl⟩ rfl rfl rfl ?_
      refine go_ireturn dX11_copy_54 rfl rfl (Nat.le_of_ble_eq_true rfl) (Nat.le_of_ble_eq_true rfl) ?_
      exact Or.inl ⟨by first | exact Or.inl c_38 | exact Or.inr c_46, rfl, rfl⟩
set_option maxRecDepth 100000 in
theorem ev_copy13 (t0 t1 : TX) (G N : TG) (T : TT) (C D : TC) (P : TP) (S : TS) (H0 H1 H2 H3 : TH) (ta : Nat → Int32) (lf : Int32) (i j n : Int32) (hz : H1.2.2.1 ≤ 60) (hy : H3.2.2.1 ≤ 60) : Ev MX11_copy [.ref 0, .int 1, .int i, .int 3, .int j, .int n] (cwd t0 t1 G N T C D P S H0 H1 H2 H3 ta lf) (fun v w => (¬ H1.1 = 0 ∨ ¬ H3.1 = 0) ∧ v = some (.int (-11)) ∧ w = (cwd t0 t1 G N T C D P S H0 H1 H2 H3 ta 1) ∨ ¬ (¬ H1.1 = 0 ∨ ¬ H3.1 = 0) ∧ ¬ H1.2.1 = H3.2.1 ∧ v = some (.int (-14)) ∧ w = (cwd t0 t1 G N T C D P S H0 H1 H2 H3 ta 4) ∨ ¬ (¬ H1.1 = 0 ∨ ¬ H3.1 = 0) ∧ H1.2.1 = H3.2.1 ∧ ((i < 0 ∨ n < 0 ∨ nI H1.2.2.1 < i ∨ nI H1.2.2.1 - i < n) ∨ (j < 0 ∨ n < 0 ∨ nI H3.2.2.1 < j ∨ nI H3.2.2.1 - j < n)) ∧ v = some (.int (-12)) ∧ w = (cwd t0 t1 G N T C D P S H0 H1 H2 H3 ta 2) ∨ ¬ (¬ H1.1 = 0 ∨ ¬ H3.1 = 0) ∧ H1.2.1 = H3.2.1 ∧ ¬ ((i < 0 ∨ n < 0 ∨ nI H1.2.2.1 < i ∨ nI H1.2.2.1 - i < n) ∨ (j < 0 ∨ n < 0 ∨ nI H3.2.2.1 < j ∨ nI H3.2.2.1 - j < n)) ∧ v = some (.int 1) ∧ w = (cwd t0 t1 G N T C D P S H0 H1 H2 (H3.1, H3.2.1, H3.2.2.1, va_cpy H1.2.2.2 H3.2.2.2 i.toNatClampNeg j.toNatClampNeg n.toNatClampNeg) ta lf)) := by
  refine ev_of bX11_copy [some (.ref 0), some (.int 1), some (.int i), some (.int 3), some (.int j), some (.int n), none, none] (Nat.le_of_ble_eq_true rfl) rfl ?_
  refine go_iload_n dX11_copy_0 rfl ?_
  refine go_callSi (z := MX11_isSheet) [] dX11_copy_1 lX11_216 sX11_isSheet (ev_X11_isSheet _) rfl rfl rfl rfl rfl rfl ?_
  refine go_if_eq 14 dX11_copy_4 (by decide) (fun c_4 => absurd c_4 (by decide)) (fun _ => ?_)
  refine go_iload_n dX11_copy_7 rfl ?_
  refine go_callSi (z := MX11_isSheet) [] dX11_copy_8 lX11_216 sX11_isSheet (ev_X11_isSheet _) rfl rfl rfl rfl rfl rfl ?_
  refine go_if_ne 17 dX11_copy_11 (by decide) (fun _ => ?_) (fun c_11 => absurd c_11 (by decide))
  refine go_aload_n dX11_copy_17 rfl ?_
  refine go_getf fX11_68 dX11_copy_18 rfl rfl ?_
  refine go_iload_n dX11_copy_21 rfl ?_
  refine go_aald dX11_copy_22 rfl (vp_in_nI (n := 1) (by decide) (by decide)) rfl ?_
  refine go_astore dX11_copy_23 (by decide) ?_
  refine go_aload_n dX11_copy_25 rfl ?_
  refine go_getf fX11_68 dX11_copy_26 rfl rfl ?_
  refine go_iload_n dX11_copy_29 rfl ?_
  refine go_aald dX11_copy_30 rfl (vp_in_nI (n := 3) (by decide) (by decide)) rfl ?_
  refine go_astore dX11_copy_31 (by decide) ?_
  refine go_aload dX11_copy_33 rfl ?_
  refine go_getf fX11_219 dX11_copy_35 rfl rfl ?_
  refine go_if_ne 49 dX11_copy_38 (by decide) (fun c_38 => ?_) (fun c_38 => ?_)
  · refine go_aload_n dX11_copy_49 rfl ?_
    refine go_iconst (1) dX11_copy_50 (by decide) ?_
    refine go_callVsw (z := MX11_finding) dX11_copy_51 lX11_223 sX11_finding (ev_X11_finding t0 t1 G N T C D P S H0 H1 H2 H3 ta lf (1)) rfl rfl rfl ⟨_, _, rfl⟩ rfl rfl rfl ?_
    refine go_ireturn dX11_copy_54 rfl rfl (Nat.le_of_ble_eq_true rfl) (Nat.le_of_ble_eq_true rfl) ?_
    exact Or.inl ⟨by first | exact Or.inl c_38 | exact Or.inr c_46, rfl, rfl⟩
  · refine go_aload dX11_copy_41 rfl ?_
    refine go_getf fX11_219 dX11_copy_43 rfl rfl ?_
    refine go_if_eq 55 dX11_copy_46 (by decide) (fun c_46 => ?_) (fun c_46 => ?_)
    · refine go_aload dX11_copy_55 rfl ?_
      refine go_getf fX11_272 dX11_copy_57 rfl rfl ?_
      refine go_aload dX11_copy_60 rfl ?_
      refine go_getf fX11_272 dX11_copy_62 rfl rfl ?_
      refine go_icmp_eq 74 dX11_copy_65 (by decide) (fun c_65 => ?_) (fun c_65 => ?_)
      · refine go_aload dX11_copy_74 rfl ?_
        refine go_iload_n dX11_copy_76 rfl ?_
        refine go_iload dX11_copy_77 rfl ?_
        refine go_callVi (z := MX6_hasStretch) [38, 39] dX11_copy_79 lX11_275 sX6_hasStretch (ev_X6_hasStretch _ _ _ i n _) rfl rfl rfl rfl rfl ⟨_, _, rfl⟩ rfl rfl ?_
        refine go_if_eq 97 dX11_copy_82 (by decide) (fun c_82 => ?_) (fun c_82 => ?_)
        · refine go_aload_n dX11_copy_97 rfl ?_
          refine go_iconst (2) dX11_copy_98 (by decide) ?_
          refine go_callVsw (z := MX11_finding) dX11_copy_99 lX11_223 sX11_finding (ev_X11_finding t0 t1 G N T C D P S H0 H1 H2 H3 ta lf (2)) rfl rfl rfl ⟨_, _, rfl⟩ rfl rfl rfl ?_
          refine go_ireturn dX11_copy_102 rfl rfl (Nat.le_of_ble_eq_true rfl) (Nat.le_of_ble_eq_true rfl) ?_
          exact Or.inr (Or.inr (Or.inl ⟨fun q => q.elim (fun q => q c_38) (fun q => q c_46), c_65, by first | exact Or.inr (full_t2 c_94) | exact Or.inl (full_t2 c_82), rfl, rfl⟩))
        · refine go_aload dX11_copy_85 rfl ?_
          refine go_iload dX11_copy_87 rfl ?_
          refine go_iload dX11_copy_89 rfl ?_
          refine go_callVi (z := MX6_hasStretch) [42, 43] dX11_copy_91 lX11_275 sX6_hasStretch (ev_X6_hasStretch _ _ _ j n _) rfl rfl rfl rfl rfl ⟨_, _, rfl⟩ rfl rfl ?_
          refine go_if_ne 103 dX11_copy_94 (by decide) (fun c_94 => ?_) (fun c_94 => ?_)
          · have g1 := stretch_ok hz (full_t3 c_82)
            have g2 := stretch_ok hy (full_t3 c_94)
            refine go_aload dX11_copy_103 rfl ?_
            refine go_getf fX11_227 dX11_copy_105 rfl rfl ?_
            refine go_iload_n dX11_copy_108 rfl ?_
            refine go_aload dX11_copy_109 rfl ?_
            refine go_getf fX11_227 dX11_copy_111 rfl rfl ?_
            refine go_iload dX11_copy_114 rfl ?_
            refine go_iload dX11_copy_116 rfl ?_
            refine go_copyI dX11_copy_118 lX11_278 rfl rfl g1.1 g2.1 g1.2.1 g1.2.2 g2.2.2 cpN cpS in_J10 (Nat.le_of_ble_eq_true rfl) (Nat.le_of_ble_eq_true rfl) ?_
            refine go_iconst (1) dX11_copy_121 (by decide) ?_
            refine go_ireturn dX11_copy_122 rfl rfl (Nat.le_of_ble_eq_true rfl) (Nat.le_of_ble_eq_true rfl) ?_
            exact Or.inr (Or.inr (Or.inr ⟨fun q => q.elim (fun q => q c_38) (fun q => q c_46), c_65, fun q => q.elim (full_t3 c_82) (full_t3 c_94), rfl, rfl⟩))
          · refine go_aload_n dX11_copy_97 rfl ?_
            refine go_iconst (2) dX11_copy_98 (by decide) ?_
            refine go_callVsw (z := MX11_finding) dX11_copy_99 lX11_223 sX11_finding (ev_X11_finding t0 t1 G N T C D P S H0 H1 H2 H3 ta lf (2)) rfl rfl rfl ⟨_, _, rfl⟩ rfl rfl rfl ?_
            refine go_ireturn dX11_copy_102 rfl rfl (Nat.le_of_ble_eq_true rfl) (Nat.le_of_ble_eq_true rfl) ?_
            exact Or.inr (Or.inr (Or.inl ⟨fun q => q.elim (fun q => q c_38) (fun q => q c_46), c_65, by first | exact Or.inr (full_t2 c_94) | exact Or.inl (full_t2 c_82), rfl, rfl⟩))
      · refine go_aload_n dX11_copy_68 rfl ?_
        refine go_iconst (4) dX11_copy_69 (by decide) ?_
        refine go_callVsw (z := MX11_finding) dX11_copy_70 lX11_223 sX11_finding (ev_X11_finding t0 t1 G N T C D P S H0 H1 H2 H3 ta lf (4)) rfl rfl rfl ⟨_, _, rfl⟩ rfl rfl rfl ?_
        refine go_ireturn dX11_copy_73 rfl rfl (Nat.le_of_ble_eq_true rfl) (Nat.le_of_ble_eq_true rfl) ?_
        exact Or.inr (Or.inl ⟨fun q => q.elim (fun q => q c_38) (fun q => q c_46), c_65, rfl, rfl⟩)
    · refine go_aload_n dX11_copy_49 rfl ?_
      refine go_iconst (1) dX11_copy_50 (by decide) ?_
      refine go_callVsw (z := MX11_finding) dX11_copy_51 lX11_223 sX11_finding (ev_X11_finding t0 t1 G N T C D P S H0 H1 H2 H3 ta lf (1)) rfl rfl rfl ⟨_, _, rfl⟩ rfl rfl rfl ?_
      refine go_ireturn dX11_copy_54 rfl rfl (Nat.le_of_ble_eq_true rfl) (Nat.le_of_ble_eq_true rfl) ?_
      exact Or.inl ⟨by first | exact Or.inl c_38 | exact Or.inr c_46, rfl, rfl⟩
set_option maxRecDepth 100000 in
theorem ev_copy20 (t0 t1 : TX) (G N : TG) (T : TT) (C D : TC) (P : TP) (S : TS) (H0 H1 H2 H3 : TH) (ta : Nat → Int32) (lf : Int32) (i j n : Int32) (hz : H2.2.2.1 ≤ 60) (hy : H0.2.2.1 ≤ 60) : Ev MX11_copy [.ref 0, .int 2, .int i, .int 0, .int j, .int n] (cwd t0 t1 G N T C D P S H0 H1 H2 H3 ta lf) (fun v w => (¬ H2.1 = 0 ∨ ¬ H0.1 = 0) ∧ v = some (.int (-11)) ∧ w = (cwd t0 t1 G N T C D P S H0 H1 H2 H3 ta 1) ∨ ¬ (¬ H2.1 = 0 ∨ ¬ H0.1 = 0) ∧ ¬ H2.2.1 = H0.2.1 ∧ v = some (.int (-14)) ∧ w = (cwd t0 t1 G N T C D P S H0 H1 H2 H3 ta 4) ∨ ¬ (¬ H2.1 = 0 ∨ ¬ H0.1 = 0) ∧ H2.2.1 = H0.2.1 ∧ ((i < 0 ∨ n < 0 ∨ nI H2.2.2.1 < i ∨ nI H2.2.2.1 - i < n) ∨ (j < 0 ∨ n < 0 ∨ nI H0.2.2.1 < j ∨ nI H0.2.2.1 - j < n)) ∧ v = some (.int (-12)) ∧ w = (cwd t0 t1 G N T C D P S H0 H1 H2 H3 ta 2) ∨ ¬ (¬ H2.1 = 0 ∨ ¬ H0.1 = 0) ∧ H2.2.1 = H0.2.1 ∧ ¬ ((i < 0 ∨ n < 0 ∨ nI H2.2.2.1 < i ∨ nI H2.2.2.1 - i < n) ∨ (j < 0 ∨ n < 0 ∨ nI H0.2.2.1 < j ∨ nI H0.2.2.1 - j < n)) ∧ v = some (.int 1) ∧ w = (cwd t0 t1 G N T C D P S (H0.1, H0.2.1, H0.2.2.1, va_cpy H2.2.2.2 H0.2.2.2 i.toNatClampNeg j.toNatClampNeg n.toNatClampNeg) H1 H2 H3 ta lf)) := by
  refine ev_of bX11_copy [some (.ref 0), some (.int 2), some (.int i), some (.int 0), some (.int j), some (.int n), none, none] (Nat.le_of_ble_eq_true rfl) rfl ?_
  refine go_iload_n dX11_copy_0 rfl ?_
  refine go_callSi (z := MX11_isSheet) [] dX11_copy_1 lX11_216 sX11_isSheet (ev_X11_isSheet _) rfl rfl rfl rfl rfl rfl ?_
  refine go_if_eq 14 dX11_copy_4 (by decide) (fun c_4 => absurd c_4 (by decide)) (fun _ => ?_)
  refine go_iload_n dX11_copy_7 rfl ?_
  refine go_callSi (z := MX11_isSheet) [] dX11_copy_8 lX11_216 sX11_isSheet (ev_X11_isSheet _) rfl rfl rfl rfl rfl rfl ?_
  refine go_if_ne 17 dX11_copy_11 (by decide) (fun _ => ?_) (fun c_11 => absurd c_11 (by decide))
  refine go_aload_n dX11_copy_17 rfl ?_
  refine go_getf fX11_68 dX11_copy_18 rfl rfl ?_
  refine go_iload_n dX11_copy_21 rfl ?_
  refine go_aald dX11_copy_22 rfl (vp_in_nI (n := 2) (by decide) (by decide)) rfl ?_
  refine go_astore dX11_copy_23 (by decide) ?_
  refine go_aload_n dX11_copy_25 rfl ?_
  refine go_getf fX11_68 dX11_copy_26 rfl rfl ?_
  refine go_iload_n dX11_copy_29 rfl ?_
  refine go_aald dX11_copy_30 rfl (vp_in_nI (n := 0) (by decide) (by decide)) rfl ?_
  refine go_astore dX11_copy_31 (by decide) ?_
  refine go_aload dX11_copy_33 rfl ?_
  refine go_getf fX11_219 dX11_copy_35 rfl rfl ?_
  refine go_if_ne 49 dX11_copy_38 (by decide) (fun c_38 => ?_) (fun c_38 => ?_)
  · refine go_aload_n dX11_copy_49 rfl ?_
    refine go_iconst (1) dX11_copy_50 (by decide) ?_
    refine go_callVsw (z := MX11_finding) dX11_copy_51 lX11_223 sX11_finding (ev_X11_finding t0 t1 G N T C D P S H0 H1 H2 H3 ta lf (1)) rfl rfl rfl ⟨_, _, rfl⟩ rfl rfl rfl ?_
    refine go_ireturn dX11_copy_54 rfl rfl (Nat.le_of_ble_eq_true rfl) (Nat.le_of_ble_eq_true rfl) ?_
    exact Or.inl ⟨by first | exact Or.inl c_38 | exact Or.inr c_46, rfl, rfl⟩
  · refine go_aload dX11_copy_41 rfl ?_
    refine go_getf fX11_219 dX11_copy_43 rfl rfl ?_
    refine go_if_eq 55 dX11_copy_46 (by decide) (fun c_46 => ?_) (fun c_46 => ?_)
    · refine go_aload dX11_copy_55 rfl ?_
      refine go_getf fX11_272 dX11_copy_57 rfl rfl ?_
      refine go_aload dX11_copy_60 rfl ?_
      refine go_getf fX11_272 dX11_copy_62 rfl rfl ?_
      refine go_icmp_eq 74 dX11_copy_65 (by decide) (fun c_65 => ?_) (fun c_65 => ?_)
      · refine go_aload dX11_copy_74 rfl ?_
        refine go_iload_n dX11_copy_76 rfl ?_
        refine go_iload dX11_copy_77 rfl ?_
        refine go_callVi (z := MX6_hasStretch) [40, 41] dX11_copy_79 lX11_275 sX6_hasStretch (ev_X6_hasStretch _ _ _ i n _) rfl rfl rfl rfl rfl ⟨_, _, rfl⟩ rfl rfl ?_
        refine go_if_eq 97 dX11_copy_82 (by decide) (fun c_82 => ?_) (fun c_82 => ?_)
        · refine go_aload_n dX11_copy_97 rfl ?_
          refine go_iconst (2) dX11_copy_98 (by decide) ?_
          refine go_callVsw (z := MX11_finding) dX11_copy_99 lX11_223 sX11_finding (ev_X11_finding t0 t1 G N T C D P S H0 H1 H2 H3 ta lf (2)) rfl rfl rfl ⟨_, _, rfl⟩ rfl rfl rfl ?_
          refine go_ireturn dX11_copy_102 rfl rfl (Nat.le_of_ble_eq_true rfl) (Nat.le_of_ble_eq_true rfl) ?_
          exact Or.inr (Or.inr (Or.inl ⟨fun q => q.elim (fun q => q c_38) (fun q => q c_46), c_65, by first | exact Or.inr (full_t2 c_94) | exact Or.inl (full_t2 c_82), rfl, rfl⟩))
        · refine go_aload dX11_copy_85 rfl ?_
          refine go_iload dX11_copy_87 rfl ?_
          refine go_iload dX11_copy_89 rfl ?_
          refine go_callVi (z := MX6_hasStretch) [36, 37] dX11_copy_91 lX11_275 sX6_hasStretch (ev_X6_hasStretch _ _ _ j n _) rfl rfl rfl rfl rfl ⟨_, _, rfl⟩ rfl rfl ?_
          refine go_if_ne 103 dX11_copy_94 (by decide) (fun c_94 => ?_) (fun c_94 => ?_)
          · have g1 := stretch_ok hz (full_t3 c_82)
            have g2 := stretch_ok hy (full_t3 c_94)
            refine go_aload dX11_copy_103 rfl ?_
            refine go_getf fX11_227 dX11_copy_105 rfl rfl ?_
            refine go_iload_n dX11_copy_108 rfl ?_
            refine go_aload dX11_copy_109 rfl ?_
            refine go_getf fX11_227 dX11_copy_111 rfl rfl ?_
            refine go_iload dX11_copy_114 rfl ?_
            refine go_iload dX11_copy_116 rfl ?_
            refine go_copyI dX11_copy_118 lX11_278 rfl rfl g1.1 g2.1 g1.2.1 g1.2.2 g2.2.2 cpN cpS in_J10 (Nat.le_of_ble_eq_true rfl) (Nat.le_of_ble_eq_true rfl) ?_
            refine go_iconst (1) dX11_copy_121 (by decide) ?_
            refine go_ireturn dX11_copy_122 rfl rfl (Nat.le_of_ble_eq_true rfl) (Nat.le_of_ble_eq_true rfl) ?_
            exact Or.inr (Or.inr (Or.inr ⟨fun q => q.elim (fun q => q c_38) (fun q => q c_46), c_65, fun q => q.elim (full_t3 c_82) (full_t3 c_94), rfl, rfl⟩))
          · refine go_aload_n dX11_copy_97 rfl ?_
            refine go_iconst (2) dX11_copy_98 (by decide) ?_
            refine go_callVsw (z := MX11_finding) dX11_copy_99 lX11_223 sX11_finding (ev_X11_finding t0 t1 G N T C D P S H0 H1 H2 H3 ta lf (2)) rfl rfl rfl ⟨_, _, rfl⟩ rfl rfl rfl ?_
            refine go_ireturn dX11_copy_102 rfl rfl (Nat.le_of_ble_eq_true rfl) (Nat.le_of_ble_eq_true rfl) ?_
            exact Or.inr (Or.inr (Or.inl ⟨fun q => q.elim (fun q => q c_38) (fun q => q c_46), c_65, by first | exact Or.inr (full_t2 c_94) | exact Or.inl (full_t2 c_82), rfl, rfl⟩))
      · refine go_aload_n dX11_copy_68 rfl ?_
        refine go_iconst (4) dX11_copy_69 (by decide) ?_
        refine go_callVsw (z := MX11_finding) dX11_copy_70 lX11_223 sX11_finding (ev_X11_finding t0 t1 G N T C D P S H0 H1 H2 H3 ta lf (4)) rfl rfl rfl ⟨_, _, rfl⟩ rfl rfl rfl ?_
        refine go_ireturn dX11_copy_73 rfl rfl (Nat.le_of_ble_eq_true rfl) (Nat.le_of_ble_eq_true rfl) ?_
        exact Or.inr (Or.inl ⟨fun q => q.elim (fun q => q c_38) (fun q => q c_46), c_65, rfl, rfl⟩)
    · refine go_aload_n dX11_copy_49 rfl ?_
      refine go_iconst (1) dX11_copy_50 (by decide) ?_
      refine go_callVsw (z := MX11_finding) dX11_copy_51 lX11_223 sX11_finding (ev_X11_finding t0 t1 G N T C D P S H0 H1 H2 H3 ta lf (1)) rfl rfl rfl ⟨_, _, rfl⟩ rfl rfl rfl ?_
      refine go_ireturn dX11_copy_54 rfl rfl (Nat.le_of_ble_eq_true rfl) (Nat.le_of_ble_eq_true rfl) ?_
      exact Or.inl ⟨by first | exact Or.inl c_38 | exact Or.inr c_46, rfl, rfl⟩
set_option maxRecDepth 100000 in
theorem ev_copy21 (t0 t1 : TX) (G N : TG) (T : TT) (C D : TC) (P : TP) (S : TS) (H0 H1 H2 H3 : TH) (ta : Nat → Int32) (lf : Int32) (i j n : Int32) (hz : H2.2.2.1 ≤ 60) (hy : H1.2.2.1 ≤ 60) : Ev MX11_copy [.ref 0, .int 2, .int i, .int 1, .int j, .int n] (cwd t0 t1 G N T C D P S H0 H1 H2 H3 ta lf) (fun v w => (¬ H2.1 = 0 ∨ ¬ H1.1 = 0) ∧ v = some (.int (-11)) ∧ w = (cwd t0 t1 G N T C D P S H0 H1 H2 H3 ta 1) ∨ ¬ (¬ H2.1 = 0 ∨ ¬ H1.1 = 0) ∧ ¬ H2.2.1 = H1.2.1 ∧ v = some (.int (-14)) ∧ w = (cwd t0 t1 G N T C D P S H0 H1 H2 H3 ta 4) ∨ ¬ (¬ H2.1 = 0 ∨ ¬ H1.1 = 0) ∧ H2.2.1 = H1.2.1 ∧ ((i < 0 ∨ n < 0 ∨ nI H2.2.2.1 < i ∨ nI H2.2.2.1 - i < n) ∨ (j < 0 ∨ n < 0 ∨ nI H1.2.2.1 < j ∨ nI H1.2.2.1 - j < n)) ∧ v = some (.int (-12)) ∧ w = (cwd t0 t1 G N T C D P S H0 H1 H2 H3 ta 2) ∨ ¬ (¬ H2.1 = 0 ∨ ¬ H1.1 = 0) ∧ H2.2.1 = H1.2.1 ∧ ¬ ((i < 0 ∨ n < 0 ∨ nI H2.2.2.1 < i ∨ nI H2.2.2.1 - i < n) ∨ (j < 0 ∨ n < 0 ∨ nI H1.2.2.1 < j ∨ nI H1.2.2.1 - j < n)) ∧ v = some (.int 1) ∧ w = (cwd t0 t1 G N T C D P S H0 (H1.1, H1.2.1, H1.2.2.1, va_cpy H2.2.2.2 H1.2.2.2 i.toNatClampNeg j.toNatClampNeg n.toNatClampNeg) H2 H3 ta lf)) := by
  refine ev_of bX11_copy [some (.ref 0), some (.int 2), some (.int i), some (.int 1), some (.int j), some (.int n), none, none] (Nat.le_of_ble_eq_true rfl) rfl ?_
  refine go_iload_n dX11_copy_0 rfl ?_
  refine go_callSi (z := MX11_isSheet) [] dX11_copy_1 lX11_216 sX11_isSheet (ev_X11_isSheet _) rfl rfl rfl rfl rfl rfl ?_
  refine go_if_eq 14 dX11_copy_4 (by decide) (fun c_4 => absurd c_4 (by decide)) (fun _ => ?_)
  refine go_iload_n dX11_copy_7 rfl ?_
  refine go_callSi (z := MX11_isSheet) [] dX11_copy_8 lX11_216 sX11_isSheet (ev_X11_isSheet _) rfl rfl rfl rfl rfl rfl ?_
  refine go_if_ne 17 dX11_copy_11 (by decide) (fun _ => ?_) (fun c_11 => absurd c_11 (by decide))
  refine go_aload_n dX11_copy_17 rfl ?_
  refine go_getf fX11_68 dX11_copy_18 rfl rfl ?_
  refine go_iload_n dX11_copy_21 rfl ?_
  refine go_aald dX11_copy_22 rfl (vp_in_nI (n := 2) (by decide) (by decide)) rfl ?_
  refine go_astore dX11_copy_23 (by decide) ?_
  refine go_aload_n dX11_copy_25 rfl ?_
  refine go_getf fX11_68 dX11_copy_26 rfl rfl ?_
  refine go_iload_n dX11_copy_29 rfl ?_
  refine go_aald dX11_copy_30 rfl (vp_in_nI (n := 1) (by decide) (by decide)) rfl ?_
  refine go_astore dX11_copy_31 (by decide) ?_
  refine go_aload dX11_copy_33 rfl ?_
  refine go_getf fX11_219 dX11_copy_35 rfl rfl ?_
  refine go_if_ne 49 dX11_copy_38 (by decide) (fun c_38 => ?_) (fun c_38 => ?_)
  · refine go_aload_n dX11_copy_49 rfl ?_
    refine go_iconst (1) dX11_copy_50 (by decide) ?_
    refine go_callVsw (z := MX11_finding) dX11_copy_51 lX11_223 sX11_finding (ev_X11_finding t0 t1 G N T C D P S H0 H1 H2 H3 ta lf (1)) rfl rfl rfl ⟨_, _, rfl⟩ rfl rfl rfl ?_
    refine go_ireturn dX11_copy_54 rfl rfl (Nat.le_of_ble_eq_true rfl) (Nat.le_of_ble_eq_true rfl) ?_
    exact Or.inl ⟨by first | exact Or.inl c_38 | exact Or.inr c_46, rfl, rfl⟩
  · refine go_aload dX11_copy_41 rfl ?_
    refine go_getf fX11_219 dX11_copy_43 rfl rfl ?_
    refine go_if_eq 55 dX11_copy_46 (by decide) (fun c_46 => ?_) (fun c_46 => ?_)
    · refine go_aload dX11_copy_55 rfl ?_
      refine go_getf fX11_272 dX11_copy_57 rfl rfl ?_
      refine go_aload dX11_copy_60 rfl ?_
      refine go_getf fX11_272 dX11_copy_62 rfl rfl ?_
      refine go_icmp_eq 74 dX11_copy_65 (by decide) (fun c_65 => ?_) (fun c_65 => ?_)
      · refine go_aload dX11_copy_74 rfl ?_
        refine go_iload_n dX11_copy_76 rfl ?_
        refine go_iload dX11_copy_77 rfl ?_
        refine go_callVi (z := MX6_hasStretch) [40, 41] dX11_copy_79 lX11_275 sX6_hasStretch (ev_X6_hasStretch _ _ _ i n _) rfl rfl rfl rfl rfl ⟨_, _, rfl⟩ rfl rfl ?_
        refine go_if_eq 97 dX11_copy_82 (by decide) (fun c_82 => ?_) (fun c_82 => ?_)
        · refine go_aload_n dX11_copy_97 rfl ?_
          refine go_iconst (2) dX11_copy_98 (by decide) ?_
          refine go_callVsw (z := MX11_finding) dX11_copy_99 lX11_223 sX11_finding (ev_X11_finding t0 t1 G N T C D P S H0 H1 H2 H3 ta lf (2)) rfl rfl rfl ⟨_, _, rfl⟩ rfl rfl rfl ?_
          refine go_ireturn dX11_copy_102 rfl rfl (Nat.le_of_ble_eq_true rfl) (Nat.le_of_ble_eq_true rfl) ?_
          exact Or.inr (Or.inr (Or.inl ⟨fun q => q.elim (fun q => q c_38) (fun q => q c_46), c_65, by first | exact Or.inr (full_t2 c_94) | exact Or.inl (full_t2 c_82), rfl, rfl⟩))
        · refine go_aload dX11_copy_85 rfl ?_
          refine go_iload dX11_copy_87 rfl ?_
          refine go_iload dX11_copy_89 rfl ?_
          refine go_callVi (z := MX6_hasStretch) [38, 39] dX11_copy_91 lX11_275 sX6_hasStretch (ev_X6_hasStretch _ _ _ j n _) rfl rfl rfl rfl rfl ⟨_, _, rfl⟩ rfl rfl ?_
          refine go_if_ne 103 dX11_copy_94 (by decide) (fun c_94 => ?_) (fun c_94 => ?_)
          · have g1 := stretch_ok hz (full_t3 c_82)
            have g2 := stretch_ok hy (full_t3 c_94)
            refine go_aload dX11_copy_103 rfl ?_
            refine go_getf fX11_227 dX11_copy_105 rfl rfl ?_
            refine go_iload_n dX11_copy_108 rfl ?_
            refine go_aload dX11_copy_109 rfl ?_
            refine go_getf fX11_227 dX11_copy_111 rfl rfl ?_
            refine go_iload dX11_copy_114 rfl ?_
            refine go_iload dX11_copy_116 rfl ?_
            refine go_copyI dX11_copy_118 lX11_278 rfl rfl g1.1 g2.1 g1.2.1 g1.2.2 g2.2.2 cpN cpS in_J10 (Nat.le_of_ble_eq_true rfl) (Nat.le_of_ble_eq_true rfl) ?_
            refine go_iconst (1) dX11_copy_121 (by decide) ?_
            refine go_ireturn dX11_copy_122 rfl rfl (Nat.le_of_ble_eq_true rfl) (Nat.le_of_ble_eq_true rfl) ?_
            exact Or.inr (Or.inr (Or.inr ⟨fun q => q.elim (fun q => q c_38) (fun q => q c_46), c_65, fun q => q.elim (full_t3 c_82) (full_t3 c_94), rfl, rfl⟩))
          · refine go_aload_n dX11_copy_97 rfl ?_
            refine go_iconst (2) dX11_copy_98 (by decide) ?_
            refine go_callVsw (z := MX11_finding) dX11_copy_99 lX11_223 sX11_finding (ev_X11_finding t0 t1 G N T C D P S H0 H1 H2 H3 ta lf (2)) rfl rfl rfl ⟨_, _, rfl⟩ rfl rfl rfl ?_
            refine go_ireturn dX11_copy_102 rfl rfl (Nat.le_of_ble_eq_true rfl) (Nat.le_of_ble_eq_true rfl) ?_
            exact Or.inr (Or.inr (Or.inl ⟨fun q => q.elim (fun q => q c_38) (fun q => q c_46), c_65, by first | exact Or.inr (full_t2 c_94) | exact Or.inl (full_t2 c_82), rfl, rfl⟩))
      · refine go_aload_n dX11_copy_68 rfl ?_
        refine go_iconst (4) dX11_copy_69 (by decide) ?_
        refine go_callVsw (z := MX11_finding) dX11_copy_70 lX11_223 sX11_finding (ev_X11_finding t0 t1 G N T C D P S H0 H1 H2 H3 ta lf (4)) rfl rfl rfl ⟨_, _, rfl⟩ rfl rfl rfl ?_
        refine go_ireturn dX11_copy_73 rfl rfl (Nat.le_of_ble_eq_true rfl) (Nat.le_of_ble_eq_true rfl) ?_
        exact Or.inr (Or.inl ⟨fun q => q.elim (fun q => q c_38) (fun q => q c_46), c_65, rfl, rfl⟩)
    · refine go_aload_n dX11_copy_49 rfl ?_
      refine go_iconst (1) dX11_copy_50 (by decide) ?_
      refine go_callVsw (z := MX11_finding) dX11_copy_51 lX11_223 sX11_finding (ev_X11_finding t0 t1 G N T C D P S H0 H1 H2 H3 ta lf (1)) rfl rfl rfl ⟨_, _, rfl⟩ rfl rfl rfl ?_
      refine go_ireturn dX11_copy_54 rfl rfl (Nat.le_of_ble_eq_true rfl) (Nat.le_of_ble_eq_true rfl) ?_
      exact Or.inl ⟨by first | exact Or.inl c_38 | exact Or.inr c_46, rfl, rfl⟩
set_option maxRecDepth 100000 in
theorem ev_copy22 (t0 t1 : TX) (G N : TG) (T : TT) (C D : TC) (P : TP) (S : TS) (H0 H1 H2 H3 : TH) (ta : Nat → Int32) (lf : Int32) (i j n : Int32) (hz : H2.2.2.1 ≤ 60) (hy : H2.2.2.1 ≤ 60) : Ev MX11_copy [.ref 0, .int 2, .int i, .int 2, .int j, .int n] (cwd t0 t1 G N T C D P S H0 H1 H2 H3 ta lf) (fun v w => (¬ H2.1 = 0 ∨ ¬ H2.1 = 0) ∧ v = some (.int (-11)) ∧ w = (cwd t0 t1 G N T C D P S H0 H1 H2 H3 ta 1) ∨ ¬ (¬ H2.1 = 0 ∨ ¬ H2.1 = 0) ∧ ¬ H2.2.1 = H2.2.1 ∧ v = some (.int (-14)) ∧ w = (cwd t0 t1 G N T C D P S H0 H1 H2 H3 ta 4) ∨ ¬ (¬ H2.1 = 0 ∨ ¬ H2.1 = 0) ∧ H2.2.1 = H2.2.1 ∧ ((i < 0 ∨ n < 0 ∨ nI H2.2.2.1 < i ∨ nI H2.2.2.1 - i < n) ∨ (j < 0 ∨ n < 0 ∨ nI H2.2.2.1 < j ∨ nI H2.2.2.1 - j < n)) ∧ v = some (.int (-12)) ∧ w = (cwd t0 t1 G N T C D P S H0 H1 H2 H3 ta 2) ∨ ¬ (¬ H2.1 = 0 ∨ ¬ H2.1 = 0) ∧ H2.2.1 = H2.2.1 ∧ ¬ ((i < 0 ∨ n < 0 ∨ nI H2.2.2.1 < i ∨ nI H2.2.2.1 - i < n) ∨ (j < 0 ∨ n < 0 ∨ nI H2.2.2.1 < j ∨ nI H2.2.2.1 - j < n)) ∧ v = some (.int 1) ∧ w = (cwd t0 t1 G N T C D P S H0 H1 (H2.1, H2.2.1, H2.2.2.1, va_cpy H2.2.2.2 H2.2.2.2 i.toNatClampNeg j.toNatClampNeg n.toNatClampNeg) H3 ta lf)) := by
  refine ev_of bX11_copy [some (.ref 0), some (.int 2), some (.int i), some (.int 2), some (.int j), some (.int n), none, none] (Nat.le_of_ble_eq_true rfl) rfl ?_
  refine go_iload_n dX11_copy_0 rfl ?_
  refine go_callSi (z := MX11_isSheet) [] dX11_copy_1 lX11_216 sX11_isSheet (ev_X11_isSheet _) rfl rfl rfl rfl rfl rfl ?_
  refine go_if_eq 14 dX11_copy_4 (by decide) (fun c_4 => absurd c_4 (by decide)) (fun _ => ?_)
  refine go_iload_n dX11_copy_7 rfl ?_
  refine go_callSi (z := MX11_isSheet) [] dX11_copy_8 lX11_216 sX11_isSheet (ev_X11_isSheet _) rfl rfl rfl rfl rfl rfl ?_
  refine go_if_ne 17 dX11_copy_11 (by decide) (fun _ => ?_) (fun c_11 => absurd c_11 (by decide))
  refine go_aload_n dX11_copy_17 rfl ?_
  refine go_getf fX11_68 dX11_copy_18 rfl rfl ?_
  refine go_iload_n dX11_copy_21 rfl ?_
  refine go_aald dX11_copy_22 rfl (vp_in_nI (n := 2) (by decide) (by decide)) rfl ?_
  refine go_astore dX11_copy_23 (by decide) ?_
  refine go_aload_n dX11_copy_25 rfl ?_
  refine go_getf fX11_68 dX11_copy_26 rfl rfl ?_
  refine go_iload_n dX11_copy_29 rfl ?_
  refine go_aald dX11_copy_30 rfl (vp_in_nI (n := 2) (by decide) (by decide)) rfl ?_
  refine go_astore dX11_copy_31 (by decide) ?_
  refine go_aload dX11_copy_33 rfl ?_
  refine go_getf fX11_219 dX11_copy_35 rfl rfl ?_
  refine go_if_ne 49 dX11_copy_38 (by decide) (fun c_38 => ?_) (fun c_38 => ?_)
  · refine go_aload_n dX11_copy_49 rfl ?_
    refine go_iconst (1) dX11_copy_50 (by decide) ?_
    refine go_callVsw (z := MX11_finding) dX11_copy_51 lX11_223 sX11_finding (ev_X11_finding t0 t1 G N T C D P S H0 H1 H2 H3 ta lf (1)) rfl rfl rfl ⟨_, _, rfl⟩ rfl rfl rfl ?_
    refine go_ireturn dX11_copy_54 rfl rfl (Nat.le_of_ble_eq_true rfl) (Nat.le_of_ble_eq_true rfl) ?_
    exact Or.inl ⟨by first | exact Or.inl c_38 | exact Or.inr c_46, rfl, rfl⟩
  · refine go_aload dX11_copy_41 rfl ?_
    refine go_getf fX11_219 dX11_copy_43 rfl rfl ?_
    refine go_if_eq 55 dX11_copy_46 (by decide) (fun c_46 => ?_) (fun c_46 => ?_)
    · refine go_aload dX11_copy_55 rfl ?_
      refine go_getf fX11_272 dX11_copy_57 rfl rfl ?_
      refine go_aload dX11_copy_60 rfl ?_
      refine go_getf fX11_272 dX11_copy_62 rfl rfl ?_
      refine go_icmp_eq 74 dX11_copy_65 (by decide) (fun c_65 => ?_) (fun c_65 => ?_)
      · refine go_aload dX11_copy_74 rfl ?_
        refine go_iload_n dX11_copy_76 rfl ?_
        refine go_iload dX11_copy_77 rfl ?_
        refine go_callVi (z := MX6_hasStretch) [40, 41] dX11_copy_79 lX11_275 sX6_hasStretch (ev_X6_hasStretch _ _ _ i n _) rfl rfl rfl rfl rfl ⟨_, _, rfl⟩ rfl rfl ?_
        refine go_if_eq 97 dX11_copy_82 (by decide) (fun c_82 => ?_) (fun c_82 => ?_)
        · refine go_aload_n dX11_copy_97 rfl ?_
          refine go_iconst (2) dX11_copy_98 (by decide) ?_
          refine go_callVsw (z := MX11_finding) dX11_copy_99 lX11_223 sX11_finding (ev_X11_finding t0 t1 G N T C D P S H0 H1 H2 H3 ta lf (2)) rfl rfl rfl ⟨_, _, rfl⟩ rfl rfl rfl ?_
          refine go_ireturn dX11_copy_102 rfl rfl (Nat.le_of_ble_eq_true rfl) (Nat.le_of_ble_eq_true rfl) ?_
          exact Or.inr (Or.inr (Or.inl ⟨fun q => q.elim (fun q => q c_38) (fun q => q c_46), c_65, by first | exact Or.inr (full_t2 c_94) | exact Or.inl (full_t2 c_82), rfl, rfl⟩))
        · refine go_aload dX11_copy_85 rfl ?_
          refine go_iload dX11_copy_87 rfl ?_
          refine go_iload dX11_copy_89 rfl ?_
          refine go_callVi (z := MX6_hasStretch) [40, 41] dX11_copy_91 lX11_275 sX6_hasStretch (ev_X6_hasStretch _ _ _ j n _) rfl rfl rfl rfl rfl ⟨_, _, rfl⟩ rfl rfl ?_
          refine go_if_ne 103 dX11_copy_94 (by decide) (fun c_94 => ?_) (fun c_94 => ?_)
          · have g1 := stretch_ok hz (full_t3 c_82)
            have g2 := stretch_ok hy (full_t3 c_94)
            refine go_aload dX11_copy_103 rfl ?_
            refine go_getf fX11_227 dX11_copy_105 rfl rfl ?_
            refine go_iload_n dX11_copy_108 rfl ?_
            refine go_aload dX11_copy_109 rfl ?_
            refine go_getf fX11_227 dX11_copy_111 rfl rfl ?_
            refine go_iload dX11_copy_114 rfl ?_
            refine go_iload dX11_copy_116 rfl ?_
            refine go_copyI dX11_copy_118 lX11_278 rfl rfl g1.1 g2.1 g1.2.1 g1.2.2 g2.2.2 cpN cpS in_J10 (Nat.le_of_ble_eq_true rfl) (Nat.le_of_ble_eq_true rfl) ?_
            refine go_iconst (1) dX11_copy_121 (by decide) ?_
            refine go_ireturn dX11_copy_122 rfl rfl (Nat.le_of_ble_eq_true rfl) (Nat.le_of_ble_eq_true rfl) ?_
            exact Or.inr (Or.inr (Or.inr ⟨fun q => q.elim (fun q => q c_38) (fun q => q c_46), c_65, fun q => q.elim (full_t3 c_82) (full_t3 c_94), rfl, rfl⟩))
          · refine go_aload_n dX11_copy_97 rfl ?_
            refine go_iconst (2) dX11_copy_98 (by decide) ?_
            refine go_callVsw (z := MX11_finding) dX11_copy_99 lX11_223 sX11_finding (ev_X11_finding t0 t1 G N T C D P S H0 H1 H2 H3 ta lf (2)) rfl rfl rfl ⟨_, _, rfl⟩ rfl rfl rfl ?_
            refine go_ireturn dX11_copy_102 rfl rfl (Nat.le_of_ble_eq_true rfl) (Nat.le_of_ble_eq_true rfl) ?_
            exact Or.inr (Or.inr (Or.inl ⟨fun q => q.elim (fun q => q c_38) (fun q => q c_46), c_65, by first | exact Or.inr (full_t2 c_94) | exact Or.inl (full_t2 c_82), rfl, rfl⟩))
      · refine go_aload_n dX11_copy_68 rfl ?_
        refine go_iconst (4) dX11_copy_69 (by decide) ?_
        refine go_callVsw (z := MX11_finding) dX11_copy_70 lX11_223 sX11_finding (ev_X11_finding t0 t1 G N T C D P S H0 H1 H2 H3 ta lf (4)) rfl rfl rfl ⟨_, _, rfl⟩ rfl rfl rfl ?_
        refine go_ireturn dX11_copy_73 rfl rfl (Nat.le_of_ble_eq_true rfl) (Nat.le_of_ble_eq_true rfl) ?_
        exact Or.inr (Or.inl ⟨fun q => q.elim (fun q => q c_38) (fun q => q c_46), c_65, rfl, rfl⟩)
    · refine go_aload_n dX11_copy_49 rfl ?_
      refine go_iconst (1) dX11_copy_50 (by decide) ?_
      refine go_callVsw (z := MX11_finding) dX11_copy_51 lX11_223 sX11_finding (ev_X11_finding t0 t1 G N T C D P S H0 H1 H2 H3 ta lf (1)) rfl rfl rfl ⟨_, _, rfl⟩ rfl rfl rfl ?_
      refine go_ireturn dX11_copy_54 rfl rfl (Nat.le_of_ble_eq_true rfl) (Nat.le_of_ble_eq_true rfl) ?_
      exact Or.inl ⟨by first | exact Or.inl c_38 | exact Or.inr c_46, rfl, rfl⟩
set_option maxRecDepth 100000 in
theorem ev_copy23 (t0 t1 : TX) (G N : TG) (T : TT) (C D : TC) (P : TP) (S : TS) (H0 H1 H2 H3 : TH) (ta : Nat → Int32) (lf : Int32) (i j n : Int32) (hz : H2.2.2.1 ≤ 60) (hy : H3.2.2.1 ≤ 60) : Ev MX11_copy [.ref 0, .int 2, .int i, .int 3, .int j, .int n] (cwd t0 t1 G N T C D P S H0 H1 H2 H3 ta lf) (fun v w => (¬ H2.1 = 0 ∨ ¬ H3.1 = 0) ∧ v = some (.int (-11)) ∧ w = (cwd t0 t1 G N T C D P S H0 H1 H2 H3 ta 1) ∨ ¬ (¬ H2.1 = 0 ∨ ¬ H3.1 = 0) ∧ ¬ H2.2.1 = H3.2.1 ∧ v = some (.int (-14)) ∧ w = (cwd t0 t1 G N T C D P S H0 H1 H2 H3 ta 4) ∨ ¬ (¬ H2.1 = 0 ∨ ¬ H3.1 = 0) ∧ H2.2.1 = H3.2.1 ∧ ((i < 0 ∨ n < 0 ∨ nI H2.2.2.1 < i ∨ nI H2.2.2.1 - i < n) ∨ (j < 0 ∨ n < 0 ∨ nI H3.2.2.1 < j ∨ nI H3.2.2.1 - j < n)) ∧ v = some (.int (-12)) ∧ w = (cwd t0 t1 G N T C D P S H0 H1 H2 H3 ta 2) ∨ ¬ (¬ H2.1 = 0 ∨ ¬ H3.1 = 0) ∧ H2.2.1 = H3.2.1 ∧ ¬ ((i < 0 ∨ n < 0 ∨ nI H2.2.2.1 < i ∨ nI H2.2.2.1 - i < n) ∨ (j < 0 ∨ n < 0 ∨ nI H3.2.2.1 < j ∨ nI H3.2.2.1 - j < n)) ∧ v = some (.int 1) ∧ w = (cwd t0 t1 G N T C D P S H0 H1 H2 (H3.1, H3.2.1, H3.2.2.1, va_cpy H2.2.2.2 H3.2.2.2 i.toNatClampNeg j.toNatClampNeg n.toNatClampNeg) ta lf)) := by
  refine ev_of bX11_copy [some (.ref 0), some (.int 2), some (.int i), some (.int 3), some (.int j), some (.int n), none, none] (Nat.le_of_ble_eq_true rfl) rfl ?_
  refine go_iload_n dX11_copy_0 rfl ?_
  refine go_callSi (z := MX11_isSheet) [] dX11_copy_1 lX11_216 sX11_isSheet (ev_X11_isSheet _) rfl rfl rfl rfl rfl rfl ?_
  refine go_if_eq 14 dX11_copy_4 (by decide) (fun c_4 => absurd c_4 (by decide)) (fun _ => ?_)
  refine go_iload_n dX11_copy_7 rfl ?_
  refine go_callSi (z := MX11_isSheet) [] dX11_copy_8 lX11_216 sX11_isSheet (ev_X11_isSheet _) rfl rfl rfl rfl rfl rfl ?_
  refine go_if_ne 17 dX11_copy_11 (by decide) (fun _ => ?_) (fun c_11 => absurd c_11 (by decide))
  refine go_aload_n dX11_copy_17 rfl ?_
  refine go_getf fX11_68 dX11_copy_18 rfl rfl ?_
  refine go_iload_n dX11_copy_21 rfl ?_
  refine go_aald dX11_copy_22 rfl (vp_in_nI (n := 2) (by decide) (by decide)) rfl ?_
  refine go_astore dX11_copy_23 (by decide) ?_
  refine go_aload_n dX11_copy_25 rfl ?_
  refine go_getf fX11_68 dX11_copy_26 rfl rfl ?_
  refine go_iload_n dX11_copy_29 rfl ?_
  refine go_aald dX11_copy_30 rfl (vp_in_nI (n := 3) (by decide) (by decide)) rfl ?_
  refine go_astore dX11_copy_31 (by decide) ?_
  refine go_aload dX11_copy_33 rfl ?_
  refine go_getf fX11_219 dX11_copy_35 rfl rfl ?_
  refine go_if_ne 49 dX11_copy_38 (by decide) (fun c_38 => ?_) (fun c_38 => ?_)
  · refine go_aload_n dX11_copy_49 rfl ?_
    refine go_iconst (1) dX11_copy_50 (by decide) ?_
    refine go_callVsw (z := MX11_finding) dX11_copy_51 lX11_223 sX11_finding (ev_X11_finding t0 t1 G N T C D P S H0 H1 H2 H3 ta lf (1)) rfl rfl rfl ⟨_, _, rfl⟩ rfl rfl rfl ?_
    refine go_ireturn dX11_copy_54 rfl rfl (Nat.le_of_ble_eq_true rfl) (Nat.le_of_ble_eq_true rfl) ?_
    exact Or.inl ⟨by first | exact Or.inl c_38 | exact Or.inr c_46, rfl, rfl⟩
  · refine go_aload dX11_copy_41 rfl ?_
    refine go_getf fX11_219 dX11_copy_43 rfl rfl ?_
    refine go_if_eq 55 dX11_copy_46 (by decide) (fun c_46 => ?_) (fun c_46 => ?_)
    · refine go_aload dX11_copy_55 rfl ?_
      refine go_getf fX11_272 dX11_copy_57 rfl rfl ?_
      refine go_aload dX11_copy_60 rfl ?_
      refine go_getf fX11_272 dX11_copy_62 rfl rfl ?_
      refine go_icmp_eq 74 dX11_copy_65 (by decide) (fun c_65 => ?_) (fun c_65 => ?_)
      · refine go_aload dX11_copy_74 rfl ?_
        refine go_iload_n dX11_copy_76 rfl ?_
        refine go_iload dX11_copy_77 rfl ?_
        refine go_callVi (z := MX6_hasStretch) [40, 41] dX11_copy_79 lX11_275 sX6_hasStretch (ev_X6_hasStretch _ _ _ i n _) rfl rfl rfl rfl rfl ⟨_, _, rfl⟩ rfl rfl ?_
        refine go_if_eq 97 dX11_copy_82 (by decide) (fun c_82 => ?_) (fun c_82 => ?_)
        · refine go_aload_n dX11_copy_97 rfl ?_
          refine go_iconst (2) dX11_copy_98 (by decide) ?_
          refine go_callVsw (z := MX11_finding) dX11_copy_99 lX11_223 sX11_finding (ev_X11_finding t0 t1 G N T C D P S H0 H1 H2 H3 ta lf (2)) rfl rfl rfl ⟨_, _, rfl⟩ rfl rfl rfl ?_
          refine go_ireturn dX11_copy_102 rfl rfl (Nat.le_of_ble_eq_true rfl) (Nat.le_of_ble_eq_true rfl) ?_
          exact Or.inr (Or.inr (Or.inl ⟨fun q => q.elim (fun q => q c_38) (fun q => q c_46), c_65, by first | exact Or.inr (full_t2 c_94) | exact Or.inl (full_t2 c_82), rfl, rfl⟩))
        · refine go_aload dX11_copy_85 rfl ?_
          refine go_iload dX11_copy_87 rfl ?_
          refine go_iload dX11_copy_89 rfl ?_
          refine go_callVi (z := MX6_hasStretch) [42, 43] dX11_copy_91 lX11_275 sX6_hasStretch (ev_X6_hasStretch _ _ _ j n _) rfl rfl rfl rfl rfl ⟨_, _, rfl⟩ rfl rfl ?_
          refine go_if_ne 103 dX11_copy_94 (by decide) (fun c_94 => ?_) (fun c_94 => ?_)
          · have g1 := stretch_ok hz (full_t3 c_82)
            have g2 := stretch_ok hy (full_t3 c_94)
            refine go_aload dX11_copy_103 rfl ?_
            refine go_getf fX11_227 dX11_copy_105 rfl rfl ?_
            refine go_iload_n dX11_copy_108 rfl ?_
            refine go_aload dX11_copy_109 rfl ?_
            refine go_getf fX11_227 dX11_copy_111 rfl rfl ?_
            refine go_iload dX11_copy_114 rfl ?_
            refine go_iload dX11_copy_116 rfl ?_
            refine go_copyI dX11_copy_118 lX11_278 rfl rfl g1.1 g2.1 g1.2.1 g1.2.2 g2.2.2 cpN cpS in_J10 (Nat.le_of_ble_eq_true rfl) (Nat.le_of_ble_eq_true rfl) ?_
            refine go_iconst (1) dX11_copy_121 (by decide) ?_
            refine go_ireturn dX11_copy_122 rfl rfl (Nat.le_of_ble_eq_true rfl) (Nat.le_of_ble_eq_true rfl) ?_
            exact Or.inr (Or.inr (Or.inr ⟨fun q => q.elim (fun q => q c_38) (fun q => q c_46), c_65, fun q => q.elim (full_t3 c_82) (full_t3 c_94), rfl, rfl⟩))
          · refine go_aload_n dX11_copy_97 rfl ?_
            refine go_iconst (2) dX11_copy_98 (by decide) ?_
            refine go_callVsw (z := MX11_finding) dX11_copy_99 lX11_223 sX11_finding (ev_X11_finding t0 t1 G N T C D P S H0 H1 H2 H3 ta lf (2)) rfl rfl rfl ⟨_, _, rfl⟩ rfl rfl rfl ?_
            refine go_ireturn dX11_copy_102 rfl rfl (Nat.le_of_ble_eq_true rfl) (Nat.le_of_ble_eq_true rfl) ?_
            exact Or.inr (Or.inr (Or.inl ⟨fun q => q.elim (fun q => q c_38) (fun q => q c_46), c_65, by first | exact Or.inr (full_t2 c_94) | exact Or.inl (full_t2 c_82), rfl, rfl⟩))
      · refine go_aload_n dX11_copy_68 rfl ?_
        refine go_iconst (4) dX11_copy_69 (by decide) ?_
        refine go_callVsw (z := MX11_finding) dX11_copy_70 lX11_223 sX11_finding (ev_X11_finding t0 t1 G N T C D P S H0 H1 H2 H3 ta lf (4)) rfl rfl rfl ⟨_, _, rfl⟩ rfl rfl rfl ?_
        refine go_ireturn dX11_copy_73 rfl rfl (Nat.le_of_ble_eq_true rfl) (Nat.le_of_ble_eq_true rfl) ?_
        exact Or.inr (Or.inl ⟨fun q => q.elim (fun q => q c_38) (fun q => q c_46), c_65, rfl, rfl⟩)
    · refine go_aload_n dX11_copy_49 rfl ?_
      refine go_iconst (1) dX11_copy_50 (by decide) ?_
      refine go_callVsw (z := MX11_finding) dX11_copy_51 lX11_223 sX11_finding (ev_X11_finding t0 t1 G N T C D P S H0 H1 H2 H3 ta lf (1)) rfl rfl rfl ⟨_, _, rfl⟩ rfl rfl rfl ?_
      refine go_ireturn dX11_copy_54 rfl rfl (Nat.le_of_ble_eq_true rfl) (Nat.le_of_ble_eq_true rfl) ?_
      exact Or.inl ⟨by first | exact Or.inl c_38 | exact Or.inr c_46, rfl, rfl⟩
set_option maxRecDepth 100000 in
theorem ev_copy30 (t0 t1 : TX) (G N : TG) (T : TT) (C D : TC) (P : TP) (S : TS) (H0 H1 H2 H3 : TH) (ta : Nat → Int32) (lf : Int32) (i j n : Int32) (hz : H3.2.2.1 ≤ 60) (hy : H0.2.2.1 ≤ 60) : Ev MX11_copy [.ref 0, .int 3, .int i, .int 0, .int j, .int n] (cwd t0 t1 G N T C D P S H0 H1 H2 H3 ta lf) (fun v w => (¬ H3.1 = 0 ∨ ¬ H0.1 = 0) ∧ v = some (.int (-11)) ∧ w = (cwd t0 t1 G N T C D P S H0 H1 H2 H3 ta 1) ∨ ¬ (¬ H3.1 = 0 ∨ ¬ H0.1 = 0) ∧ ¬ H3.2.1 = H0.2.1 ∧ v = some (.int (-14)) ∧ w = (cwd t0 t1 G N T C D P S H0 H1 H2 H3 ta 4) ∨ ¬ (¬ H3.1 = 0 ∨ ¬ H0.1 = 0) ∧ H3.2.1 = H0.2.1 ∧ ((i < 0 ∨ n < 0 ∨ nI H3.2.2.1 < i ∨ nI H3.2.2.1 - i < n) ∨ (j < 0 ∨ n < 0 ∨ nI H0.2.2.1 < j ∨ nI H0.2.2.1 - j < n)) ∧ v = some (.int (-12)) ∧ w = (cwd t0 t1 G N T C D P S H0 H1 H2 H3 ta 2) ∨ ¬ (¬ H3.1 = 0 ∨ ¬ H0.1 = 0) ∧ H3.2.1 = H0.2.1 ∧ ¬ ((i < 0 ∨ n < 0 ∨ nI H3.2.2.1 < i ∨ nI H3.2.2.1 - i < n) ∨ (j < 0 ∨ n < 0 ∨ nI H0.2.2.1 < j ∨ nI H0.2.2.1 - j < n)) ∧ v = some (.int 1) ∧ w = (cwd t0 t1 G N T C D P S (H0.1, H0.2.1, H0.2.2.1, va_cpy H3.2.2.2 H0.2.2.2 i.toNatClampNeg j.toNatClampNeg n.toNatClampNeg) H1 H2 H3 ta lf)) := by
  refine ev_of bX11_copy [some (.ref 0), some (.int 3), some (.int i), some (.int 0), some (.int j), some (.int n), none, none] (Nat.le_of_ble_eq_true rfl) rfl ?_
  refine go_iload_n dX11_copy_0 rfl ?_
  refine go_callSi (z := MX11_isSheet) [] dX11_copy_1 lX11_216 sX11_isSheet (ev_X11_isSheet _) rfl rfl rfl rfl rfl rfl ?_
  refine go_if_eq 14 dX11_copy_4 (by decide) (fun c_4 => absurd c_4 (by decide)) (fun _ => ?_)
  refine go_iload_n dX11_copy_7 rfl ?_
  refine go_callSi (z := MX11_isSheet) [] dX11_copy_8 lX11_216 sX11_isSheet (ev_X11_isSheet _) rfl rfl rfl rfl rfl rfl ?_
  refine go_if_ne 17 dX11_copy_11 (by decide) (fun _ => ?_) (fun c_11 => absurd c_11 (by decide))
  refine go_aload_n dX11_copy_17 rfl ?_
  refine go_getf fX11_68 dX11_copy_18 rfl rfl ?_
  refine go_iload_n dX11_copy_21 rfl ?_
  refine go_aald dX11_copy_22 rfl (vp_in_nI (n := 3) (by decide) (by decide)) rfl ?_
  refine go_astore dX11_copy_23 (by decide) ?_
  refine go_aload_n dX11_copy_25 rfl ?_
  refine go_getf fX11_68 dX11_copy_26 rfl rfl ?_
  refine go_iload_n dX11_copy_29 rfl ?_
  refine go_aald dX11_copy_30 rfl (vp_in_nI (n := 0) (by decide) (by decide)) rfl ?_
  refine go_astore dX11_copy_31 (by decide) ?_
  refine go_aload dX11_copy_33 rfl ?_
  refine go_getf fX11_219 dX11_copy_35 rfl rfl ?_
  refine go_if_ne 49 dX11_copy_38 (by decide) (fun c_38 => ?_) (fun c_38 => ?_)
  · refine go_aload_n dX11_copy_49 rfl ?_
    refine go_iconst (1) dX11_copy_50 (by decide) ?_
    refine go_callVsw (z := MX11_finding) dX11_copy_51 lX11_223 sX11_finding (ev_X11_finding t0 t1 G N T C D P S H0 H1 H2 H3 ta lf (1)) rfl rfl rfl ⟨_, _, rfl⟩ rfl rfl rfl ?_
    refine go_ireturn dX11_copy_54 rfl rfl (Nat.le_of_ble_eq_true rfl) (Nat.le_of_ble_eq_true rfl) ?_
    exact Or.inl ⟨by first | exact Or.inl c_38 | exact Or.inr c_46, rfl, rfl⟩
  · refine go_aload dX11_copy_41 rfl ?_
    refine go_getf fX11_219 dX11_copy_43 rfl rfl ?_
    refine go_if_eq 55 dX11_copy_46 (by decide) (fun c_46 => ?_) (fun c_46 => ?_)
    · refine go_aload dX11_copy_55 rfl ?_
      refine go_getf fX11_272 dX11_copy_57 rfl rfl ?_
      refine go_aload dX11_copy_60 rfl ?_
      refine go_getf fX11_272 dX11_copy_62 rfl rfl ?_
      refine go_icmp_eq 74 dX11_copy_65 (by decide) (fun c_65 => ?_) (fun c_65 => ?_)
      · refine go_aload dX11_copy_74 rfl ?_
        refine go_iload_n dX11_copy_76 rfl ?_
        refine go_iload dX11_copy_77 rfl ?_
        refine go_callVi (z := MX6_hasStretch) [42, 43] dX11_copy_79 lX11_275 sX6_hasStretch (ev_X6_hasStretch _ _ _ i n _) rfl rfl rfl rfl rfl ⟨_, _, rfl⟩ rfl rfl ?_
        refine go_if_eq 97 dX11_copy_82 (by decide) (fun c_82 => ?_) (fun c_82 => ?_)
        · refine go_aload_n dX11_copy_97 rfl ?_
          refine go_iconst (2) dX11_copy_98 (by decide) ?_
          refine go_callVsw (z := MX11_finding) dX11_copy_99 lX11_223 sX11_finding (ev_X11_finding t0 t1 G N T C D P S H0 H1 H2 H3 ta lf (2)) rfl rfl rfl ⟨_, _, rfl⟩ rfl rfl rfl ?_
          refine go_ireturn dX11_copy_102 rfl rfl (Nat.le_of_ble_eq_true rfl) (Nat.le_of_ble_eq_true rfl) ?_
          exact Or.inr (Or.inr (Or.inl ⟨fun q => q.elim (fun q => q c_38) (fun q => q c_46), c_65, by first | exact Or.inr (full_t2 c_94) | exact Or.inl (full_t2 c_82), rfl, rfl⟩))
        · refine go_aload dX11_copy_85 rfl ?_
          refine go_iload dX11_copy_87 rfl ?_
          refine go_iload dX11_copy_89 rfl ?_
          refine go_callVi (z := MX6_hasStretch) [36, 37] dX11_copy_91 lX11_275 sX6_hasStretch (ev_X6_hasStretch _ _ _ j n _) rfl rfl rfl rfl rfl ⟨_, _, rfl⟩ rfl rfl ?_
          refine go_if_ne 103 dX11_copy_94 (by decide) (fun c_94 => ?_) (fun c_94 => ?_)
          · have g1 := stretch_ok hz (full_t3 c_82)
            have g2 := stretch_ok hy (full_t3 c_94)
            refine go_aload dX11_copy_103 rfl ?_
            refine go_getf fX11_227 dX11_copy_105 rfl rfl ?_
            refine go_iload_n dX11_copy_108 rfl ?_
            refine go_aload dX11_copy_109 rfl ?_
            refine go_getf fX11_227 dX11_copy_111 rfl rfl ?_
            refine go_iload dX11_copy_114 rfl ?_
            refine go_iload dX11_copy_116 rfl ?_
            refine go_copyI dX11_copy_118 lX11_278 rfl rfl g1.1 g2.1 g1.2.1 g1.2.2 g2.2.2 cpN cpS in_J10 (Nat.le_of_ble_eq_true rfl) (Nat.le_of_ble_eq_true rfl) ?_
            refine go_iconst (1) dX11_copy_121 (by decide) ?_
            refine go_ireturn dX11_copy_122 rfl rfl (Nat.le_of_ble_eq_true rfl) (Nat.le_of_ble_eq_true rfl) ?_
            exact Or.inr (Or.inr (Or.inr ⟨fun q => q.elim (fun q => q c_38) (fun q => q c_46), c_65, fun q => q.elim (full_t3 c_82) (full_t3 c_94), rfl, rfl⟩))
          · refine go_aload_n dX11_copy_97 rfl ?_
            refine go_iconst (2) dX11_copy_98 (by decide) ?_
            refine go_callVsw (z := MX11_finding) dX11_copy_99 lX11_223 sX11_finding (ev_X11_finding t0 t1 G N T C D P S H0 H1 H2 H3 ta lf (2)) rfl rfl rfl ⟨_, _, rfl⟩ rfl rfl rfl ?_
            refine go_ireturn dX11_copy_102 rfl rfl (Nat.le_of_ble_eq_true rfl) (Nat.le_of_ble_eq_true rfl) ?_
            exact Or.inr (Or.inr (Or.inl ⟨fun q => q.elim (fun q => q c_38) (fun q => q c_46), c_65, by first | exact Or.inr (full_t2 c_94) | exact Or.inl (full_t2 c_82), rfl, rfl⟩))
      · refine go_aload_n dX11_copy_68 rfl ?_
        refine go_iconst (4) dX11_copy_69 (by decide) ?_
        refine go_callVsw (z := MX11_finding) dX11_copy_70 lX11_223 sX11_finding (ev_X11_finding t0 t1 G N T C D P S H0 H1 H2 H3 ta lf (4)) rfl rfl rfl ⟨_, _, rfl⟩ rfl rfl rfl ?_
        refine go_ireturn dX11_copy_73 rfl rfl (Nat.le_of_ble_eq_true rfl) (Nat.le_of_ble_eq_true rfl) ?_
        exact Or.inr (Or.inl ⟨fun q => q.elim (fun q => q c_38) (fun q => q c_46), c_65, rfl, rfl⟩)
    · refine go_aload_n dX11_copy_49 rfl ?_
      refine go_iconst (1) dX11_copy_50 (by decide) ?_
      refine go_callVsw (z := MX11_finding) dX11_copy_51 lX11_223 sX11_finding (ev_X11_finding t0 t1 G N T C D P S H0 H1 H2 H3 ta lf (1)) rfl rfl rfl ⟨_, _, rfl⟩ rfl rfl rfl ?_
      refine go_ireturn dX11_copy_54 rfl rfl (Nat.le_of_ble_eq_true rfl) (Nat.le_of_ble_eq_true rfl) ?_
      exact Or.inl ⟨by first | exact Or.inl c_38 | exact Or.inr c_46, rfl, rfl⟩
set_option maxRecDepth 100000 in
theorem ev_copy31 (t0 t1 : TX) (G N : TG) (T : TT) (C D : TC) (P : TP) (S : TS) (H0 H1 H2 H3 : TH) (ta : Nat → Int32) (lf : Int32) (i j n : Int32) (hz : H3.2.2.1 ≤ 60) (hy : H1.2.2.1 ≤ 60) : Ev MX11_copy [.ref 0, .int 3, .int i, .int 1, .int j, .int n] (cwd t0 t1 G N T C D P S H0 H1 H2 H3 ta lf) (fun v w => (¬ H3.1 = 0 ∨ ¬ H1.1 = 0) ∧ v = some (.int (-11)) ∧ w = (cwd t0 t1 G N T C D P S H0 H1 H2 H3 ta 1) ∨ ¬ (¬ H3.1 = 0 ∨ ¬ H1.1 = 0) ∧ ¬ H3.2.1 = H1.2.1 ∧ v = some (.int (-14)) ∧ w = (cwd t0 t1 G N T C D P S H0 H1 H2 H3 ta 4) ∨ ¬ (¬ H3.1 = 0 ∨ ¬ H1.1 = 0) ∧ H3.2.1 = H1.2.1 ∧ ((i < 0 ∨ n < 0 ∨ nI H3.2.2.1 < i ∨ nI H3.2.2.1 - i < n) ∨ (j < 0 ∨ n < 0 ∨ nI H1.2.2.1 < j ∨ nI H1.2.2.1 - j < n)) ∧ v = some (.int (-12)) ∧ w = (cwd t0 t1 G N T C D P S H0 H1 H2 H3 ta 2) ∨ ¬ (¬ H3.1 = 0 ∨ ¬ H1.1 = 0) ∧ H3.2.1 = H1.2.1 ∧ ¬ ((i < 0 ∨ n < 0 ∨ nI H3.2.2.1 < i ∨ nI H3.2.2.1 - i < n) ∨ (j < 0 ∨ n < 0 ∨ nI H1.2.2.1 < j ∨ nI H1.2.2.1 - j < n)) ∧ v = some (.int 1) ∧ w = (cwd t0 t1 G N T C D P S H0 (H1.1, H1.2.1, H1.2.2.1, va_cpy H3.2.2.2 H1.2.2.2 i.toNatClampNeg j.toNatClampNeg n.toNatClampNeg) H2 H3 ta lf)) := by
  refine ev_of bX11_copy [some (.ref 0), some (.int 3), some (.int i), some (.int 1), some (.int j), some (.int n), none, none] (Nat.le_of_ble_eq_true rfl) rfl ?_
  refine go_iload_n dX11_copy_0 rfl ?_
  refine go_callSi (z := MX11_isSheet) [] dX11_copy_1 lX11_216 sX11_isSheet (ev_X11_isSheet _) rfl rfl rfl rfl rfl rfl ?_
  refine go_if_eq 14 dX11_copy_4 (by decide) (fun c_4 => absurd c_4 (by decide)) (fun _ => ?_)
  refine go_iload_n dX11_copy_7 rfl ?_
  refine go_callSi (z := MX11_isSheet) [] dX11_copy_8 lX11_216 sX11_isSheet (ev_X11_isSheet _) rfl rfl rfl rfl rfl rfl ?_
  refine go_if_ne 17 dX11_copy_11 (by decide) (fun _ => ?_) (fun c_11 => absurd c_11 (by decide))
  refine go_aload_n dX11_copy_17 rfl ?_
  refine go_getf fX11_68 dX11_copy_18 rfl rfl ?_
  refine go_iload_n dX11_copy_21 rfl ?_
  refine go_aald dX11_copy_22 rfl (vp_in_nI (n := 3) (by decide) (by decide)) rfl ?_
  refine go_astore dX11_copy_23 (by decide) ?_
  refine go_aload_n dX11_copy_25 rfl ?_
  refine go_getf fX11_68 dX11_copy_26 rfl rfl ?_
  refine go_iload_n dX11_copy_29 rfl ?_
  refine go_aald dX11_copy_30 rfl (vp_in_nI (n := 1) (by decide) (by decide)) rfl ?_
  refine go_astore dX11_copy_31 (by decide) ?_
  refine go_aload dX11_copy_33 rfl ?_
  refine go_getf fX11_219 dX11_copy_35 rfl rfl ?_
  refine go_if_ne 49 dX11_copy_38 (by decide) (fun c_38 => ?_) (fun c_38 => ?_)
  · refine go_aload_n dX11_copy_49 rfl ?_
    refine go_iconst (1) dX11_copy_50 (by decide) ?_
    refine go_callVsw (z := MX11_finding) dX11_copy_51 lX11_223 sX11_finding (ev_X11_finding t0 t1 G N T C D P S H0 H1 H2 H3 ta lf (1)) rfl rfl rfl ⟨_, _, rfl⟩ rfl rfl rfl ?_
    refine go_ireturn dX11_copy_54 rfl rfl (Nat.le_of_ble_eq_true rfl) (Nat.le_of_ble_eq_true rfl) ?_
    exact Or.inl ⟨by first | exact Or.inl c_38 | exact Or.inr c_46, rfl, rfl⟩
  · refine go_aload dX11_copy_41 rfl ?_
    refine go_getf fX11_219 dX11_copy_43 rfl rfl ?_
    refine go_if_eq 55 dX11_copy_46 (by decide) (fun c_46 => ?_) (fun c_46 => ?_)
    · refine go_aload dX11_copy_55 rfl ?_
      refine go_getf fX11_272 dX11_copy_57 rfl rfl ?_
      refine go_aload dX11_copy_60 rfl ?_
      refine go_getf fX11_272 dX11_copy_62 rfl rfl ?_
      refine go_icmp_eq 74 dX11_copy_65 (by decide) (fun c_65 => ?_) (fun c_65 => ?_)
      · refine go_aload dX11_copy_74 rfl ?_
        refine go_iload_n dX11_copy_76 rfl ?_
        refine go_iload dX11_copy_77 rfl ?_
        refine go_callVi (z := MX6_hasStretch) [42, 43] dX11_copy_79 lX11_275 sX6_hasStretch (ev_X6_hasStretch _ _ _ i n _) rfl rfl rfl rfl rfl ⟨_, _, rfl⟩ rfl rfl ?_
        refine go_if_eq 97 dX11_copy_82 (by decide) (fun c_82 => ?_) (fun c_82 => ?_)
        · refine go_aload_n dX11_copy_97 rfl ?_
          refine go_iconst (2) dX11_copy_98 (by decide) ?_
          refine go_callVsw (z := MX11_finding) dX11_copy_99 lX11_223 sX11_finding (ev_X11_finding t0 t1 G N T C D P S H0 H1 H2 H3 ta lf (2)) rfl rfl rfl ⟨_, _, rfl⟩ rfl rfl rfl ?_
          refine go_ireturn dX11_copy_102 rfl rfl (Nat.le_of_ble_eq_true rfl) (Nat.le_of_ble_eq_true rfl) ?_
          exact Or.inr (Or.inr (Or.inl ⟨fun q => q.elim (fun q => q c_38) (fun q => q c_46), c_65, by first | exact Or.inr (full_t2 c_94) | exact Or.inl (full_t2 c_82), rfl, rfl⟩))
        · refine go_aload dX11_copy_85 rfl ?_
          refine go_iload dX11_copy_87 rfl ?_
          refine go_iload dX11_copy_89 rfl ?_
          refine go_callVi (z := MX6_hasStretch) [38, 39] dX11_copy_91 lX11_275 sX6_hasStretch (ev_X6_hasStretch _ _ _ j n _) rfl rfl rfl rfl rfl ⟨_, _, rfl⟩ rfl rfl ?_
          refine go_if_ne 103 dX11_copy_94 (by decide) (fun c_94 => ?_) (fun c_94 => ?_)
          · have g1 := stretch_ok hz (full_t3 c_82)
            have g2 := stretch_ok hy (full_t3 c_94)
            refine go_aload dX11_copy_103 rfl ?_
            refine go_getf fX11_227 dX11_copy_105 rfl rfl ?_
            refine go_iload_n dX11_copy_108 rfl ?_
            refine go_aload dX11_copy_109 rfl ?_
            refine go_getf fX11_227 dX11_copy_111 rfl rfl ?_
            refine go_iload dX11_copy_114 rfl ?_
            refine go_iload dX11_copy_116 rfl ?_
            refine go_copyI dX11_copy_118 lX11_278 rfl rfl g1.1 g2.1 g1.2.1 g1.2.2 g2.2.2 cpN cpS in_J10 (Nat.le_of_ble_eq_true rfl) (Nat.le_of_ble_eq_true rfl) ?_
            refine go_iconst (1) dX11_copy_121 (by decide) ?_
            refine go_ireturn dX11_copy_122 rfl rfl (Nat.le_of_ble_eq_true rfl) (Nat.le_of_ble_eq_true rfl) ?_
            exact Or.inr (Or.inr (Or.inr ⟨fun q => q.elim (fun q => q c_38) (fun q => q c_46), c_65, fun q => q.elim (full_t3 c_82) (full_t3 c_94), rfl, rfl⟩))
          · refine go_aload_n dX11_copy_97 rfl ?_
            refine go_iconst (2) dX11_copy_98 (by decide) ?_
            refine go_callVsw (z := MX11_finding) dX11_copy_99 lX11_223 sX11_finding (ev_X11_finding t0 t1 G N T C D P S H0 H1 H2 H3 ta lf (2)) rfl rfl rfl ⟨_, _, rfl⟩ rfl rfl rfl ?_
            refine go_ireturn dX11_copy_102 rfl rfl (Nat.le_of_ble_eq_true rfl) (Nat.le_of_ble_eq_true rfl) ?_
            exact Or.inr (Or.inr (Or.inl ⟨fun q => q.elim (fun q => q c_38) (fun q => q c_46), c_65, by first | exact Or.inr (full_t2 c_94) | exact Or.inl (full_t2 c_82), rfl, rfl⟩))
      · refine go_aload_n dX11_copy_68 rfl ?_
        refine go_iconst (4) dX11_copy_69 (by decide) ?_
        refine go_callVsw (z := MX11_finding) dX11_copy_70 lX11_223 sX11_finding (ev_X11_finding t0 t1 G N T C D P S H0 H1 H2 H3 ta lf (4)) rfl rfl rfl ⟨_, _, rfl⟩ rfl rfl rfl ?_
        refine go_ireturn dX11_copy_73 rfl rfl (Nat.le_of_ble_eq_true rfl) (Nat.le_of_ble_eq_true rfl) ?_
        exact Or.inr (Or.inl ⟨fun q => q.elim (fun q => q c_38) (fun q => q c_46), c_65, rfl, rfl⟩)
    · refine go_aload_n dX11_copy_49 rfl ?_
      refine go_iconst (1) dX11_copy_50 (by decide) ?_
      refine go_callVsw (z := MX11_finding) dX11_copy_51 lX11_223 sX11_finding (ev_X11_finding t0 t1 G N T C D P S H0 H1 H2 H3 ta lf (1)) rfl rfl rfl ⟨_, _, rfl⟩ rfl rfl rfl ?_
      refine go_ireturn dX11_copy_54 rfl rfl (Nat.le_of_ble_eq_true rfl) (Nat.le_of_ble_eq_true rfl) ?_
      exact Or.inl ⟨by first | exact Or.inl c_38 | exact Or.inr c_46, rfl, rfl⟩
set_option maxRecDepth 100000 in
theorem ev_copy32 (t0 t1 : TX) (G N : TG) (T : TT) (C D : TC) (P : TP) (S : TS) (H0 H1 H2 H3 : TH) (ta : Nat → Int32) (lf : Int32) (i j n : Int32) (hz : H3.2.2.1 ≤ 60) (hy : H2.2.2.1 ≤ 60) : Ev MX11_copy [.ref 0, .int 3, .int i, .int 2, .int j, .int n] (cwd t0 t1 G N T C D P S H0 H1 H2 H3 ta lf) (fun v w => (¬ H3.1 = 0 ∨ ¬ H2.1 = 0) ∧ v = some (.int (-11)) ∧ w = (cwd t0 t1 G N T C D P S H0 H1 H2 H3 ta 1) ∨ ¬ (¬ H3.1 = 0 ∨ ¬ H2.1 = 0) ∧ ¬ H3.2.1 = H2.2.1 ∧ v = some (.int (-14)) ∧ w = (cwd t0 t1 G N T C D P S H0 H1 H2 H3 ta 4) ∨ ¬ (¬ H3.1 = 0 ∨ ¬ H2.1 = 0) ∧ H3.2.1 = H2.2.1 ∧ ((i < 0 ∨ n < 0 ∨ nI H3.2.2.1 < i ∨ nI H3.2.2.1 - i < n) ∨ (j < 0 ∨ n < 0 ∨ nI H2.2.2.1 < j ∨ nI H2.2.2.1 - j < n)) ∧ v = some (.int (-12)) ∧ w = (cwd t0 t1 G N T C D P S H0 H1 H2 H3 ta 2) ∨ ¬ (¬ H3.1 = 0 ∨ ¬ H2.1 = 0) ∧ H3.2.1 = H2.2.1 ∧ ¬ ((i < 0 ∨ n < 0 ∨ nI H3.2.2.1 < i ∨ nI H3.2.2.1 - i < n) ∨ (j < 0 ∨ n < 0 ∨ nI H2.2.2.1 < j ∨ nI H2.2.2.1 - j < n)) ∧ v = some (.int 1) ∧ w = (cwd t0 t1 G N T C D P S H0 H1 (H2.1, H2.2.1, H2.2.2.1, va_cpy H3.2.2.2 H2.2.2.2 i.toNatClampNeg j.toNatClampNeg n.toNatClampNeg) H3 ta lf)) := by
  refine ev_of bX11_copy [some (.ref 0), some (.int 3), some (.int i), some (.int 2), some (.int j), some (.int n), none, none] (Nat.le_of_ble_eq_true rfl) rfl ?_
  refine go_iload_n dX11_copy_0 rfl ?_
  refine go_callSi (z := MX11_isSheet) [] dX11_copy_1 lX11_216 sX11_isSheet (ev_X11_isSheet _) rfl rfl rfl rfl rfl rfl ?_
  refine go_if_eq 14 dX11_copy_4 (by decide) (fun c_4 => absurd c_4 (by decide)) (fun _ => ?_)
  refine go_iload_n dX11_copy_7 rfl ?_
  refine go_callSi (z := MX11_isSheet) [] dX11_copy_8 lX11_216 sX11_isSheet (ev_X11_isSheet _) rfl rfl rfl rfl rfl rfl ?_
  refine go_if_ne 17 dX11_copy_11 (by decide) (fun _ => ?_) (fun c_11 => absurd c_11 (by decide))
  refine go_aload_n dX11_copy_17 rfl ?_
  refine go_getf fX11_68 dX11_copy_18 rfl rfl ?_
  refine go_iload_n dX11_copy_21 rfl ?_
  refine go_aald dX11_copy_22 rfl (vp_in_nI (n := 3) (by decide) (by decide)) rfl ?_
  refine go_astore dX11_copy_23 (by decide) ?_
  refine go_aload_n dX11_copy_25 rfl ?_
  refine go_getf fX11_68 dX11_copy_26 rfl rfl ?_
  refine go_iload_n dX11_copy_29 rfl ?_
  refine go_aald dX11_copy_30 rfl (vp_in_nI (n := 2) (by decide) (by decide)) rfl ?_
  refine go_astore dX11_copy_31 (by decide) ?_
  refine go_aload dX11_copy_33 rfl ?_
  refine go_getf fX11_219 dX11_copy_35 rfl rfl ?_
  refine go_if_ne 49 dX11_copy_38 (by decide) (fun c_38 => ?_) (fun c_38 => ?_)
  · refine go_aload_n dX11_copy_49 rfl ?_
    refine go_iconst (1) dX11_copy_50 (by decide) ?_
    refine go_callVsw (z := MX11_finding) dX11_copy_51 lX11_223 sX11_finding (ev_X11_finding t0 t1 G N T C D P S H0 H1 H2 H3 ta lf (1)) rfl rfl rfl ⟨_, _, rfl⟩ rfl rfl rfl ?_
    refine go_ireturn dX11_copy_54 rfl rfl (Nat.le_of_ble_eq_true rfl) (Nat.le_of_ble_eq_true rfl) ?_
    exact Or.inl ⟨by first | exact Or.inl c_38 | exact Or.inr c_46, rfl, rfl⟩
  · refine go_aload dX11_copy_41 rfl ?_
    refine go_getf fX11_219 dX11_copy_43 rfl rfl ?_
    refine go_if_eq 55 dX11_copy_46 (by decide) (fun c_46 => ?_) (fun c_46 => ?_)
    · refine go_aload dX11_copy_55 rfl ?_
      refine go_getf fX11_272 dX11_copy_57 rfl rfl ?_
      refine go_aload dX11_copy_60 rfl ?_
      refine go_getf fX11_272 dX11_copy_62 rfl rfl ?_
      refine go_icmp_eq 74 dX11_copy_65 (by decide) (fun c_65 => ?_) (fun c_65 => ?_)
      · refine go_aload dX11_copy_74 rfl ?_
        refine go_iload_n dX11_copy_76 rfl ?_
        refine go_iload dX11_copy_77 rfl ?_
        refine go_callVi (z := MX6_hasStretch) [42, 43] dX11_copy_79 lX11_275 sX6_hasStretch (ev_X6_hasStretch _ _ _ i n _) rfl rfl rfl rfl rfl ⟨_, _, rfl⟩ rfl rfl ?_
        refine go_if_eq 97 dX11_copy_82 (by decide) (fun c_82 => ?_) (fun c_82 => ?_)
        · refine go_aload_n dX11_copy_97 rfl ?_
          refine go_iconst (2) dX11_copy_98 (by decide) ?_
          refine go_callVsw (z := MX11_finding) dX11_copy_99 lX11_223 sX11_finding (ev_X11_finding t0 t1 G N T C D P S H0 H1 H2 H3 ta lf (2)) rfl rfl rfl ⟨_, _, rfl⟩ rfl rfl rfl ?_
          refine go_ireturn dX11_copy_102 rfl rfl (Nat.le_of_ble_eq_true rfl) (Nat.le_of_ble_eq_true rfl) ?_
          exact Or.inr (Or.inr (Or.inl ⟨fun q => q.elim (fun q => q c_38) (fun q => q c_46), c_65, by first | exact Or.inr (full_t2 c_94) | exact Or.inl (full_t2 c_82), rfl, rfl⟩))
        · refine go_aload dX11_copy_85 rfl ?_
          refine go_iload dX11_copy_87 rfl ?_
          refine go_iload dX11_copy_89 rfl ?_
          refine go_callVi (z := MX6_hasStretch) [40, 41] dX11_copy_91 lX11_275 sX6_hasStretch (ev_X6_hasStretch _ _ _ j n _) rfl rfl rfl rfl rfl ⟨_, _, rfl⟩ rfl rfl ?_
          refine go_if_ne 103 dX11_copy_94 (by decide) (fun c_94 => ?_) (fun c_94 => ?_)
          · have g1 := stretch_ok hz (full_t3 c_82)
            have g2 := stretch_ok hy (full_t3 c_94)
            refine go_aload dX11_copy_103 rfl ?_
            refine go_getf fX11_227 dX11_copy_105 rfl rfl ?_
            refine go_iload_n dX11_copy_108 rfl ?_
            refine go_aload dX11_copy_109 rfl ?_
            refine go_getf fX11_227 dX11_copy_111 rfl rfl ?_
            refine go_iload dX11_copy_114 rfl ?_
            refine go_iload dX11_copy_116 rfl ?_
            refine go_copyI dX11_copy_118 lX11_278 rfl rfl g1.1 g2.1 g1.2.1 g1.2.2 g2.2.2 cpN cpS in_J10 (Nat.le_of_ble_eq_true rfl) (Nat.le_of_ble_eq_true rfl) ?_
            refine go_iconst (1) dX11_copy_121 (by decide) ?_
            refine go_ireturn dX11_copy_122 rfl rfl (Nat.le_of_ble_eq_true rfl) (Nat.le_of_ble_eq_true rfl) ?_
            exact Or.inr (Or.inr (Or.inr ⟨fun q => q.elim (fun q => q c_38) (fun q => q c_46), c_65, fun q => q.elim (full_t3 c_82) (full_t3 c_94), rfl, rfl⟩))
          · refine go_aload_n dX11_copy_97 rfl ?_
            refine go_iconst (2) dX11_copy_98 (by decide) ?_
            refine go_callVsw (z := MX11_finding) dX11_copy_99 lX11_223 sX11_finding (ev_X11_finding t0 t1 G N T C D P S H0 H1 H2 H3 ta lf (2)) rfl rfl rfl ⟨_, _, rfl⟩ rfl rfl rfl ?_
            refine go_ireturn dX11_copy_102 rfl rfl (Nat.le_of_ble_eq_true rfl) (Nat.le_of_ble_eq_true rfl) ?_
            exact Or.inr (Or.inr (Or.inl ⟨fun q => q.elim (fun q => q c_38) (fun q => q c_46), c_65, by first | exact Or.inr (full_t2 c_94) | exact Or.inl (full_t2 c_82), rfl, rfl⟩))
      · refine go_aload_n dX11_copy_68 rfl ?_
        refine go_iconst (4) dX11_copy_69 (by decide) ?_
        refine go_callVsw (z := MX11_finding) dX11_copy_70 lX11_223 sX11_finding (ev_X11_finding t0 t1 G N T C D P S H0 H1 H2 H3 ta lf (4)) rfl rfl rfl ⟨_, _, rfl⟩ rfl rfl rfl ?_
        refine go_ireturn dX11_copy_73 rfl rfl (Nat.le_of_ble_eq_true rfl) (Nat.le_of_ble_eq_true rfl) ?_
        exact Or.inr (Or.inl ⟨fun q => q.elim (fun q => q c_38) (fun q => q c_46), c_65, rfl, rfl⟩)
    · refine go_aload_n dX11_copy_49 rfl ?_
      refine go_iconst (1) dX11_copy_50 (by decide) ?_
      refine go_callVsw (z := MX11_finding) dX11_copy_51 lX11_223 sX11_finding (ev_X11_finding t0 t1 G N T C D P S H0 H1 H2 H3 ta lf (1)) rfl rfl rfl ⟨_, _, rfl⟩ rfl rfl rfl ?_
      refine go_ireturn dX11_copy_54 rfl rfl (Nat.le_of_ble_eq_true rfl) (Nat.le_of_ble_eq_true rfl) ?_
      exact Or.inl ⟨by first | exact Or.inl c_38 | exact Or.inr c_46, rfl, rfl⟩
set_option maxRecDepth 100000 in
theorem ev_copy33 (t0 t1 : TX) (G N : TG) (T : TT) (C D : TC) (P : TP) (S : TS) (H0 H1 H2 H3 : TH) (ta : Nat → Int32) (lf : Int32) (i j n : Int32) (hz : H3.2.2.1 ≤ 60) (hy : H3.2.2.1 ≤ 60) : Ev MX11_copy [.ref 0, .int 3, .int i, .int 3, .int j, .int n] (cwd t0 t1 G N T C D P S H0 H1 H2 H3 ta lf) (fun v w => (¬ H3.1 = 0 ∨ ¬ H3.1 = 0) ∧ v = some (.int (-11)) ∧ w = (cwd t0 t1 G N T C D P S H0 H1 H2 H3 ta 1) ∨ ¬ (¬ H3.1 = 0 ∨ ¬ H3.1 = 0) ∧ ¬ H3.2.1 = H3.2.1 ∧ v = some (.int (-14)) ∧ w = (cwd t0 t1 G N T C D P S H0 H1 H2 H3 ta 4) ∨ ¬ (¬ H3.1 = 0 ∨ ¬ H3.1 = 0) ∧ H3.2.1 = H3.2.1 ∧ ((i < 0 ∨ n < 0 ∨ nI H3.2.2.1 < i ∨ nI H3.2.2.1 - i < n) ∨ (j < 0 ∨ n < 0 ∨ nI H3.2.2.1 < j ∨ nI H3.2.2.1 - j < n)) ∧ v = some (.int (-12)) ∧ w = (cwd t0 t1 G N T C D P S H0 H1 H2 H3 ta 2) ∨ ¬ (¬ H3.1 = 0 ∨ ¬ H3.1 = 0) ∧ H3.2.1 = H3.2.1 ∧ ¬ ((i < 0 ∨ n < 0 ∨ nI H3.2.2.1 < i ∨ nI H3.2.2.1 - i < n) ∨ (j < 0 ∨ n < 0 ∨ nI H3.2.2.1 < j ∨ nI H3.2.2.1 - j < n)) ∧ v = some (.int 1) ∧ w = (cwd t0 t1 G N T C D P S H0 H1 H2 (H3.1, H3.2.1, H3.2.2.1, va_cpy H3.2.2.2 H3.2.2.2 i.toNatClampNeg j.toNatClampNeg n.toNatClampNeg) ta lf)) := by
  refine ev_of bX11_copy [some (.ref 0), some (.int 3), some (.int i), some (.int 3), some (.int j), some (.int n), none, none] (Nat.le_of_ble_eq_true rfl) rfl ?_
  refine go_iload_n dX11_copy_0 rfl ?_
  refine go_callSi (z := MX11_isSheet) [] dX11_copy_1 lX11_216 sX11_isSheet (ev_X11_isSheet _) rfl rfl rfl rfl rfl rfl ?_
  refine go_if_eq 14 dX11_copy_4 (by decide) (fun c_4 => absurd c_4 (by decide)) (fun _ => ?_)
  refine go_iload_n dX11_copy_7 rfl ?_
  refine go_callSi (z := MX11_isSheet) [] dX11_copy_8 lX11_216 sX11_isSheet (ev_X11_isSheet _) rfl rfl rfl rfl rfl rfl ?_
  refine go_if_ne 17 dX11_copy_11 (by decide) (fun _ => ?_) (fun c_11 => absurd c_11 (by decide))
  refine go_aload_n dX11_copy_17 rfl ?_
  refine go_getf fX11_68 dX11_copy_18 rfl rfl ?_
  refine go_iload_n dX11_copy_21 rfl ?_
  refine go_aald dX11_copy_22 rfl (vp_in_nI (n := 3) (by decide) (by decide)) rfl ?_
  refine go_astore dX11_copy_23 (by decide) ?_
  refine go_aload_n dX11_copy_25 rfl ?_
  refine go_getf fX11_68 dX11_copy_26 rfl rfl ?_
  refine go_iload_n dX11_copy_29 rfl ?_
  refine go_aald dX11_copy_30 rfl (vp_in_nI (n := 3) (by decide) (by decide)) rfl ?_
  refine go_astore dX11_copy_31 (by decide) ?_
  refine go_aload dX11_copy_33 rfl ?_
  refine go_getf fX11_219 dX11_copy_35 rfl rfl ?_
  refine go_if_ne 49 dX11_copy_38 (by decide) (fun c_38 => ?_) (fun c_38 => ?_)
  · refine go_aload_n dX11_copy_49 rfl ?_
    refine go_iconst (1) dX11_copy_50 (by decide) ?_
    refine go_callVsw (z := MX11_finding) dX11_copy_51 lX11_223 sX11_finding (ev_X11_finding t0 t1 G N T C D P S H0 H1 H2 H3 ta lf (1)) rfl rfl rfl ⟨_, _, rfl⟩ rfl rfl rfl ?_
    refine go_ireturn dX11_copy_54 rfl rfl (Nat.le_of_ble_eq_true rfl) (Nat.le_of_ble_eq_true rfl) ?_
    exact Or.inl ⟨by first | exact Or.inl c_38 | exact Or.inr c_46, rfl, rfl⟩
  · refine go_aload dX11_copy_41 rfl ?_
    refine go_getf fX11_219 dX11_copy_43 rfl rfl ?_
    refine go_if_eq 55 dX11_copy_46 (by decide) (fun c_46 => ?_) (fun c_46 => ?_)
    · refine go_aload dX11_copy_55 rfl ?_
      refine go_getf fX11_272 dX11_copy_57 rfl rfl ?_
      refine go_aload dX11_copy_60 rfl ?_
      refine go_getf fX11_272 dX11_copy_62 rfl rfl ?_
      refine go_icmp_eq 74 dX11_copy_65 (by decide) (fun c_65 => ?_) (fun c_65 => ?_)
      · refine go_aload dX11_copy_74 rfl ?_
        refine go_iload_n dX11_copy_76 rfl ?_
        refine go_iload dX11_copy_77 rfl ?_
        refine go_callVi (z := MX6_hasStretch) [42, 43] dX11_copy_79 lX11_275 sX6_hasStretch (ev_X6_hasStretch _ _ _ i n _) rfl rfl rfl rfl rfl ⟨_, _, rfl⟩ rfl rfl ?_
        refine go_if_eq 97 dX11_copy_82 (by decide) (fun c_82 => ?_) (fun c_82 => ?_)
        · refine go_aload_n dX11_copy_97 rfl ?_
          refine go_iconst (2) dX11_copy_98 (by decide) ?_
          refine go_callVsw (z := MX11_finding) dX11_copy_99 lX11_223 sX11_finding (ev_X11_finding t0 t1 G N T C D P S H0 H1 H2 H3 ta lf (2)) rfl rfl rfl ⟨_, _, rfl⟩ rfl rfl rfl ?_
          refine go_ireturn dX11_copy_102 rfl rfl (Nat.le_of_ble_eq_true rfl) (Nat.le_of_ble_eq_true rfl) ?_
          exact Or.inr (Or.inr (Or.inl ⟨fun q => q.elim (fun q => q c_38) (fun q => q c_46), c_65, by first | exact Or.inr (full_t2 c_94) | exact Or.inl (full_t2 c_82), rfl, rfl⟩))
        · refine go_aload dX11_copy_85 rfl ?_
          refine go_iload dX11_copy_87 rfl ?_
          refine go_iload dX11_copy_89 rfl ?_
          refine go_callVi (z := MX6_hasStretch) [42, 43] dX11_copy_91 lX11_275 sX6_hasStretch (ev_X6_hasStretch _ _ _ j n _) rfl rfl rfl rfl rfl ⟨_, _, rfl⟩ rfl rfl ?_
          refine go_if_ne 103 dX11_copy_94 (by decide) (fun c_94 => ?_) (fun c_94 => ?_)
          · have g1 := stretch_ok hz (full_t3 c_82)
            have g2 := stretch_ok hy (full_t3 c_94)
            refine go_aload dX11_copy_103 rfl ?_
            refine go_getf fX11_227 dX11_copy_105 rfl rfl ?_
            refine go_iload_n dX11_copy_108 rfl ?_
            refine go_aload dX11_copy_109 rfl ?_
            refine go_getf fX11_227 dX11_copy_111 rfl rfl ?_
            refine go_iload dX11_copy_114 rfl ?_
            refine go_iload dX11_copy_116 rfl ?_
            refine go_copyI dX11_copy_118 lX11_278 rfl rfl g1.1 g2.1 g1.2.1 g1.2.2 g2.2.2 cpN cpS in_J10 (Nat.le_of_ble_eq_true rfl) (Nat.le_of_ble_eq_true rfl) ?_
            refine go_iconst (1) dX11_copy_121 (by decide) ?_
            refine go_ireturn dX11_copy_122 rfl rfl (Nat.le_of_ble_eq_true rfl) (Nat.le_of_ble_eq_true rfl) ?_
            exact Or.inr (Or.inr (Or.inr ⟨fun q => q.elim (fun q => q c_38) (fun q => q c_46), c_65, fun q => q.elim (full_t3 c_82) (full_t3 c_94), rfl, rfl⟩))
          · refine go_aload_n dX11_copy_97 rfl ?_
            refine go_iconst (2) dX11_copy_98 (by decide) ?_
            refine go_callVsw (z := MX11_finding) dX11_copy_99 lX11_223 sX11_finding (ev_X11_finding t0 t1 G N T C D P S H0 H1 H2 H3 ta lf (2)) rfl rfl rfl ⟨_, _, rfl⟩ rfl rfl rfl ?_
            refine go_ireturn dX11_copy_102 rfl rfl (Nat.le_of_ble_eq_true rfl) (Nat.le_of_ble_eq_true rfl) ?_
            exact Or.inr (Or.inr (Or.inl ⟨fun q => q.elim (fun q => q c_38) (fun q => q c_46), c_65, by first | exact Or.inr (full_t2 c_94) | exact Or.inl (full_t2 c_82), rfl, rfl⟩))
      · refine go_aload_n dX11_copy_68 rfl ?_
        refine go_iconst (4) dX11_copy_69 (by decide) ?_
        refine go_callVsw (z := MX11_finding) dX11_copy_70 lX11_223 sX11_finding (ev_X11_finding t0 t1 G N T C D P S H0 H1 H2 H3 ta lf (4)) rfl rfl rfl ⟨_, _, rfl⟩ rfl rfl rfl ?_
        refine go_ireturn dX11_copy_73 rfl rfl (Nat.le_of_ble_eq_true rfl) (Nat.le_of_ble_eq_true rfl) ?_
        exact Or.inr (Or.inl ⟨fun q => q.elim (fun q => q c_38) (fun q => q c_46), c_65, rfl, rfl⟩)
    · refine go_aload_n dX11_copy_49 rfl ?_
      refine go_iconst (1) dX11_copy_50 (by decide) ?_
      refine go_callVsw (z := MX11_finding) dX11_copy_51 lX11_223 sX11_finding (ev_X11_finding t0 t1 G N T C D P S H0 H1 H2 H3 ta lf (1)) rfl rfl rfl ⟨_, _, rfl⟩ rfl rfl rfl ?_
      refine go_ireturn dX11_copy_54 rfl rfl (Nat.le_of_ble_eq_true rfl) (Nat.le_of_ble_eq_true rfl) ?_
      exact Or.inl ⟨by first | exact Or.inl c_38 | exact Or.inr c_46, rfl, rfl⟩
set_option maxRecDepth 100000 in
theorem ev_read_bad (t0 t1 : TX) (G N : TG) (T : TT) (C D : TC) (P : TP) (S : TS) (H0 H1 H2 H3 : TH) (ta : Nat → Int32) (lf : Int32) (x : Int32) (hx : x < 0 ∨ 4 ≤ x) : Ev MX11_read [.ref 0, .int x] (cwd t0 t1 G N T C D P S H0 H1 H2 H3 ta lf) (Ri (cwd t0 t1 G N T C D P S H0 H1 H2 H3 ta lf) (-2)) := by
  refine ev_of bX11_read [some (.ref 0), some (.int x), none, none, none, none, none] (Nat.le_of_ble_eq_true rfl) rfl ?_
  refine go_iload_n dX11_read_0 rfl ?_
  refine go_callSi (z := MX11_isSheet) [] dX11_read_1 lX11_216 sX11_isSheet (ev_X11_isSheet _) rfl rfl rfl rfl rfl rfl ?_
  refine go_if_ne 10 dX11_read_4 (by decide) (fun c_4 => absurd (if_pos hx) c_4) (fun _ => ?_)
  refine go_bipush (-2) dX11_read_7 (by decide) ?_
  refine go_ireturn dX11_read_9 rfl rfl (Nat.le_of_ble_eq_true rfl) (Nat.le_of_ble_eq_true rfl) ?_
  exact ⟨rfl, rfl⟩
set_option maxRecDepth 100000 in
theorem ev_write_bad (t0 t1 : TX) (G N : TG) (T : TT) (C D : TC) (P : TP) (S : TS) (H0 H1 H2 H3 : TH) (ta : Nat → Int32) (lf : Int32) (x : Int32) (hx : x < 0 ∨ 4 ≤ x) : Ev MX11_write [.ref 0, .int x] (cwd t0 t1 G N T C D P S H0 H1 H2 H3 ta lf) (Ri (cwd t0 t1 G N T C D P S H0 H1 H2 H3 ta lf) (-2)) := by
  refine ev_of bX11_write [some (.ref 0), some (.int x), none, none, none] (Nat.le_of_ble_eq_true rfl) rfl ?_
  refine go_iload_n dX11_write_0 rfl ?_
  refine go_callSi (z := MX11_isSheet) [] dX11_write_1 lX11_216 sX11_isSheet (ev_X11_isSheet _) rfl rfl rfl rfl rfl rfl ?_
  refine go_if_ne 10 dX11_write_4 (by decide) (fun c_4 => absurd (if_pos hx) c_4) (fun _ => ?_)
  refine go_bipush (-2) dX11_write_7 (by decide) ?_
  refine go_ireturn dX11_write_9 rfl rfl (Nat.le_of_ble_eq_true rfl) (Nat.le_of_ble_eq_true rfl) ?_
  exact ⟨rfl, rfl⟩
set_option maxRecDepth 100000 in
theorem ev_copy_bad (t0 t1 : TX) (G N : TG) (T : TT) (C D : TC) (P : TP) (S : TS) (H0 H1 H2 H3 : TH) (ta : Nat → Int32) (lf : Int32) (x i y j n : Int32) (hx : (x < 0 ∨ 4 ≤ x) ∨ (y < 0 ∨ 4 ≤ y)) : Ev MX11_copy [.ref 0, .int x, .int i, .int y, .int j, .int n] (cwd t0 t1 G N T C D P S H0 H1 H2 H3 ta lf) (Ri (cwd t0 t1 G N T C D P S H0 H1 H2 H3 ta lf) (-2)) := by
  refine ev_of bX11_copy [some (.ref 0), some (.int x), some (.int i), some (.int y), some (.int j), some (.int n), none, none] (Nat.le_of_ble_eq_true rfl) rfl ?_
  refine go_iload_n dX11_copy_0 rfl ?_
  refine go_callSi (z := MX11_isSheet) [] dX11_copy_1 lX11_216 sX11_isSheet (ev_X11_isSheet _) rfl rfl rfl rfl rfl rfl ?_
  refine go_if_eq 14 dX11_copy_4 (by decide) (fun c_4 => ?_) (fun c_4 => ?_)
  · refine go_bipush (-2) dX11_copy_14 (by decide) ?_
    refine go_ireturn dX11_copy_16 rfl rfl (Nat.le_of_ble_eq_true rfl) (Nat.le_of_ble_eq_true rfl) ?_
    exact ⟨rfl, rfl⟩
  · refine go_iload_n dX11_copy_7 rfl ?_
    refine go_callSi (z := MX11_isSheet) [] dX11_copy_8 lX11_216 sX11_isSheet (ev_X11_isSheet _) rfl rfl rfl rfl rfl rfl ?_
    refine go_if_ne 17 dX11_copy_11 (by decide) (fun c_11 => ?_) (fun c_11 => ?_)
    · exact absurd hx (fun q => q.elim (fun q => c_4 (if_pos q)) (fun q => c_11 (if_pos q)))
    · refine go_bipush (-2) dX11_copy_14 (by decide) ?_
      refine go_ireturn dX11_copy_16 rfl rfl (Nat.le_of_ble_eq_true rfl) (Nat.le_of_ble_eq_true rfl) ?_
      exact ⟨rfl, rfl⟩
