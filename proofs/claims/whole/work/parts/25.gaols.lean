set_option maxRecDepth 100000 in
theorem ev_X11_gaols (t0 t1 : TX) (G N : TG) (T : TT) (C D : TC) (P : TP) (S : TS) (H0 H1 H2 H3 : TH) (ta : Nat → Int32) (lf : Int32) (hN : N.1 ≤ 12) (hC : C.1 = nI N.1) (seed n y : Int32) : Ev MX11_gaols [.ref 0, .int seed, .int n, .int y] (cwd t0 t1 G N T C D P S H0 H1 H2 H3 ta lf) (fun v w => (n < 1 ∨ 99 < n ∨ ¬ (y = 0 ∨ y = 1)) ∧ v = some (.int (-2)) ∧ w = (cwd t0 t1 G N T C D P S H0 H1 H2 H3 ta lf) ∨ ¬ (n < 1 ∨ 99 < n ∨ ¬ (y = 0 ∨ y = 1)) ∧ v = some (.int (if y = 0 then ((galS C.2.2.2.1 C.2.2.2.2.1 C.2.2.2.2.2.2.2.2.1 N.1 (decide (¬ C.2.2.2.2.2.2.1 N.1 < C.2.1)) seed) n.toNatClampNeg).2.1 else ((galS C.2.2.2.1 C.2.2.2.2.1 C.2.2.2.2.2.2.2.2.1 N.1 (decide (¬ C.2.2.2.2.2.2.1 N.1 < C.2.1)) seed) n.toNatClampNeg).2.2)) ∧ w = (cwd t0 t1 G N T C D P S H0 H1 H2 H3 ta lf)) := by
  refine ev_of bX11_gaols [some (.ref 0), some (.int seed), some (.int n), some (.int y), none, none, none, none, none] (Nat.le_of_ble_eq_true rfl) rfl ?_
  obtain ⟨c1, C⟩ := C
  dsimp only at hC
  subst hC
  refine go_iload_n dX11_gaols_0 rfl ?_
  refine go_iconst (1) dX11_gaols_1 (by decide) ?_
  refine go_icmp_lt 18 dX11_gaols_2 (by decide) (fun c_2 => ?_) (fun c_2 => ?_)
  · refine go_bipush (-2) dX11_gaols_18 (by decide) ?_
    refine go_ireturn dX11_gaols_20 rfl rfl (Nat.le_of_ble_eq_true rfl) (Nat.le_of_ble_eq_true rfl) ?_
    exact Or.inl ⟨by first | exact Or.inl c_2 | exact Or.inr (Or.inl c_8) | exact Or.inr (Or.inr (void0 c_15)), rfl, rfl⟩
  · refine go_iload_n dX11_gaols_5 rfl ?_
    refine go_bipush (99) dX11_gaols_6 (by decide) ?_
    refine go_icmp_gt 18 dX11_gaols_8 (by decide) (fun c_8 => ?_) (fun c_8 => ?_)
    · refine go_bipush (-2) dX11_gaols_18 (by decide) ?_
      refine go_ireturn dX11_gaols_20 rfl rfl (Nat.le_of_ble_eq_true rfl) (Nat.le_of_ble_eq_true rfl) ?_
      exact Or.inl ⟨by first | exact Or.inl c_2 | exact Or.inr (Or.inl c_8) | exact Or.inr (Or.inr (void0 c_15)), rfl, rfl⟩
    · refine go_iload_n dX11_gaols_11 rfl ?_
      refine go_callSi (z := MX11_isEither) [] dX11_gaols_12 lX11_135 sX11_isEither (ev_X11_isEither _) rfl rfl rfl rfl rfl rfl ?_
      refine go_if_ne 21 dX11_gaols_15 (by decide) (fun c_15 => ?_) (fun c_15 => ?_)
      · refine go_new (ci := 2) (nw := 44) [.int 0] dX11_gaols_21 clX11_242 it_X3 in_X3 rfl (fun j hj => by match j, hj with | 0, _ => rfl) (fun _ => rfl) (Nat.le_of_ble_eq_true rfl) (Nat.le_of_ble_eq_true rfl) rfl (by decide) rfl ?_
        refine go_dup dX11_gaols_24 rfl ?_
        refine go_iload_n dX11_gaols_25 rfl ?_
        refine go_callI (z := MX3_init) [44] dX11_gaols_26 lX11_244 sX3_init rfl (ev_X3_init 0 seed) rfl rfl rfl rfl (fit_of rfl) (res_of rfl) (fun v w1 h => by obtain ⟨-, rfl⟩ := h; rfl) (fun v_26 w_26 h_26 => ?_)
        obtain ⟨rfl, rfl⟩ := h_26
        refine go_astore dX11_gaols_29 (by decide) ?_
        refine go_iconst (0) dX11_gaols_31 (by decide) ?_
        refine go_istore dX11_gaols_32 (by decide) ?_
        refine go_iconst (0) dX11_gaols_34 (by decide) ?_
        refine go_istore dX11_gaols_35 (by decide) ?_
        refine go_iconst (0) dX11_gaols_37 (by decide) ?_
        refine go_istore dX11_gaols_38 (by decide) ?_
        have hb : ¬ (n < 1 ∨ 99 < n ∨ ¬ (y = 0 ∨ y = 1)) := fun q => q.elim c_2 (fun q => q.elim c_8 (fun q => q (void1 c_15)))
        obtain ⟨hn1, hn2⟩ := in_range (x := n) (n := 100) (n_pos c_2) (fun q => c_8 (lt_succ (n := 99) (by decide) q)) (by decide)
        generalize hk : n.toNatClampNeg = k at hn1 hn2
        subst hn1
        suffices loop : ∀ (d t : Nat) (x8 : Option Value), t + d = k → Go X0 MX11_gaols (fun v w => ((nI k) < 1 ∨ 99 < (nI k) ∨ ¬ (y = 0 ∨ y = 1)) ∧ v = some (.int (-2)) ∧ w = (cwd t0 t1 G N T (nI N.1, C) D P S H0 H1 H2 H3 ta lf) ∨ ¬ ((nI k) < 1 ∨ 99 < (nI k) ∨ ¬ (y = 0 ∨ y = 1)) ∧ v = some (.int (if y = 0 then ((galS (nI N.1, C).2.2.2.1 (nI N.1, C).2.2.2.2.1 (nI N.1, C).2.2.2.2.2.2.2.2.1 N.1 (decide (¬ (nI N.1, C).2.2.2.2.2.2.1 N.1 < (nI N.1, C).2.1)) seed) k).2.1 else ((galS (nI N.1, C).2.2.2.1 (nI N.1, C).2.2.2.2.1 (nI N.1, C).2.2.2.2.2.2.2.2.1 N.1 (decide (¬ (nI N.1, C).2.2.2.2.2.2.1 N.1 < (nI N.1, C).2.1)) seed) k).2.2)) ∧ w = (cwd t0 t1 G N T (nI N.1, C) D P S H0 H1 H2 H3 ta lf)) 44 1 1 40 [some (.ref 0), some (.int seed), some (.int (nI k)), some (.int y), some (.ref 44), some (.int ((galS (nI N.1, C).2.2.2.1 (nI N.1, C).2.2.2.2.1 (nI N.1, C).2.2.2.2.2.2.2.2.1 N.1 (decide (¬ (nI N.1, C).2.2.2.2.2.2.1 N.1 < (nI N.1, C).2.1)) seed) t).2.1), some (.int ((galS (nI N.1, C).2.2.2.1 (nI N.1, C).2.2.2.2.1 (nI N.1, C).2.2.2.2.2.2.2.2.1 N.1 (decide (¬ (nI N.1, C).2.2.2.2.2.2.1 N.1 < (nI N.1, C).2.1)) seed) t).2.2), some (.int (nI t)), x8] [] ((cwd t0 t1 G N T (nI N.1, C) D P S H0 H1 H2 H3 ta lf) ++ [zO 2 [.int ((galS (nI N.1, C).2.2.2.1 (nI N.1, C).2.2.2.2.1 (nI N.1, C).2.2.2.2.2.2.2.2.1 N.1 (decide (¬ (nI N.1, C).2.2.2.2.2.2.1 N.1 < (nI N.1, C).2.1)) seed) t).1]]) from loop k 0 _ (by omega)
        intro d
        induction d with
        | zero =>
          intro t x8 ht
          obtain rfl : t = k := by omega
          refine go_iload dX11_gaols_40 rfl ?_
          refine go_iload_n dX11_gaols_42 rfl ?_
          refine go_icmp_ge 103 dX11_gaols_43 (by decide) (fun _ => ?_) (fun c_43 => absurd (Int32.le_refl _) c_43)
          refine go_clr 4 ?_
          refine go_clr 8 ?_
          refine go_drop (w := (cwd t0 t1 G N T (nI N.1, C) D P S H0 H1 H2 H3 ta lf)) rfl rfl ?_
          refine go_iload_n dX11_gaols_103 rfl ?_
          refine go_if_ne 112 dX11_gaols_104 (by decide) (fun c_104 => ?_) (fun c_104 => ?_)
          · refine go_iload dX11_gaols_112 rfl ?_
            refine go_ireturn dX11_gaols_114 rfl rfl (Nat.le_of_ble_eq_true rfl) (Nat.le_of_ble_eq_true rfl) ?_
            exact Or.inr ⟨hb, by simp [c_104], rfl⟩
          · refine go_iload dX11_gaols_107 rfl ?_
            refine go_goto 114 dX11_gaols_109 (by decide) ?_
            refine go_ireturn dX11_gaols_114 rfl rfl (Nat.le_of_ble_eq_true rfl) (Nat.le_of_ble_eq_true rfl) ?_
            exact Or.inr ⟨hb, by simp [c_104], rfl⟩
        | succ d ih =>
          intro t x8 ht
          have e := ih (t + 1)
          have e2 : (galS (nI N.1, C).2.2.2.1 (nI N.1, C).2.2.2.2.1 (nI N.1, C).2.2.2.2.2.2.2.2.1 N.1 (decide (¬ (nI N.1, C).2.2.2.2.2.2.1 N.1 < (nI N.1, C).2.1)) seed) (t + 1) = ((plI (nI N.1, C).2.2.2.1 (nI N.1, C).2.2.2.2.1 N.1 0 ((galS (nI N.1, C).2.2.2.1 (nI N.1, C).2.2.2.2.1 (nI N.1, C).2.2.2.2.2.2.2.2.1 N.1 (decide (¬ (nI N.1, C).2.2.2.2.2.2.1 N.1 < (nI N.1, C).2.1)) seed) t).1).2, (if (plI (nI N.1, C).2.2.2.1 (nI N.1, C).2.2.2.2.1 N.1 0 ((galS (nI N.1, C).2.2.2.1 (nI N.1, C).2.2.2.2.1 (nI N.1, C).2.2.2.2.2.2.2.2.1 N.1 (decide (¬ (nI N.1, C).2.2.2.2.2.2.1 N.1 < (nI N.1, C).2.1)) seed) t).1).1 = N.1 ∧ decide (¬ (nI N.1, C).2.2.2.2.2.2.1 N.1 < (nI N.1, C).2.1) = true then ((galS (nI N.1, C).2.2.2.1 (nI N.1, C).2.2.2.2.1 (nI N.1, C).2.2.2.2.2.2.2.2.1 N.1 (decide (¬ (nI N.1, C).2.2.2.2.2.2.1 N.1 < (nI N.1, C).2.1)) seed) t).2.1 + 1 else ((galS (nI N.1, C).2.2.2.1 (nI N.1, C).2.2.2.2.1 (nI N.1, C).2.2.2.2.2.2.2.2.1 N.1 (decide (¬ (nI N.1, C).2.2.2.2.2.2.1 N.1 < (nI N.1, C).2.1)) seed) t).2.1), ((galS (nI N.1, C).2.2.2.1 (nI N.1, C).2.2.2.2.1 (nI N.1, C).2.2.2.2.2.2.2.2.1 N.1 (decide (¬ (nI N.1, C).2.2.2.2.2.2.1 N.1 < (nI N.1, C).2.1)) seed) t).2.2 + (nI N.1, C).2.2.2.2.2.2.2.2.1 (plI (nI N.1, C).2.2.2.1 (nI N.1, C).2.2.2.2.1 N.1 0 ((galS (nI N.1, C).2.2.2.1 (nI N.1, C).2.2.2.2.1 (nI N.1, C).2.2.2.2.2.2.2.2.1 N.1 (decide (¬ (nI N.1, C).2.2.2.2.2.2.1 N.1 < (nI N.1, C).2.1)) seed) t).1).1) := rfl
          rw [e2] at e
          clear e2
          generalize ((galS (nI N.1, C).2.2.2.1 (nI N.1, C).2.2.2.2.1 (nI N.1, C).2.2.2.2.2.2.2.2.1 N.1 (decide (¬ (nI N.1, C).2.2.2.2.2.2.1 N.1 < (nI N.1, C).2.1)) seed) t) = gt at e ⊢
          obtain ⟨gs, gl, gz⟩ := gt
          have hst := plI_le (nI N.1, C).2.2.2.1 (nI N.1, C).2.2.2.2.1 N.1 0 gs
          generalize hpl : (plI (nI N.1, C).2.2.2.1 (nI N.1, C).2.2.2.2.1 N.1 0 gs) = pl at e hst
          obtain ⟨pa, pb⟩ := pl
          dsimp only at hst e
          refine go_iload dX11_gaols_40 rfl ?_
          refine go_iload_n dX11_gaols_42 rfl ?_
          refine go_icmp_ge 103 dX11_gaols_43 (by decide) (fun c_43 => absurd c_43 (nI_ge (by omega) (by omega))) (fun _ => ?_)
          refine go_aload_n dX11_gaols_46 rfl ?_
          refine go_getf fX11_45 dX11_gaols_47 rfl rfl ?_
          refine go_aload dX11_gaols_50 rfl ?_
          refine go_callVw (z := MX0_playTill) [10, 11, 12, 13, 14, 15, 16, 17, 44] _ dX11_gaols_52 lX11_245 sX0_playTill (ev_X0_playTill _ _ _ _ _ _ _ _ _ N.1 hN gs) rfl rfl rfl rfl rfl ⟨_, _, rfl⟩ rfl rfl rfl rfl ?_
          rw [hpl]
          refine go_istore dX11_gaols_55 (by decide) ?_
          refine go_iload dX11_gaols_57 rfl ?_
          refine go_aload_n dX11_gaols_59 rfl ?_
          refine go_getf fX11_45 dX11_gaols_60 rfl rfl ?_
          refine go_getf fX11_249 dX11_gaols_63 rfl rfl ?_
          refine go_iload dX11_gaols_66 rfl ?_
          refine go_iald dX11_gaols_68 rfl (vp_in_nI (n := pa) (by omega) (by decide)) ?_
          rw [nI_clamp (show pa < 2 ^ 31 by omega)]
          refine go_iadd dX11_gaols_69 ?_
          refine go_istore dX11_gaols_70 (by decide) ?_
          refine go_iload dX11_gaols_72 rfl ?_
          refine go_aload_n dX11_gaols_74 rfl ?_
          refine go_getf fX11_45 dX11_gaols_75 rfl rfl ?_
          refine go_getf fX11_252 dX11_gaols_78 rfl rfl ?_
          refine go_icmp_ne 97 dX11_gaols_81 (by decide) (fun c_81 => ?_) (fun c_81 => ?_)
          · refine go_iincN (1) dX11_gaols_97 rfl (by decide) (by decide) ?_
            refine go_goto 40 dX11_gaols_100 (by decide) ?_
            rw [nI_1]
            first
              | (rw [if_neg (show ¬ (pa = N.1 ∧ decide (¬ C.2.2.2.2.2.1 N.1 < C.1) = true) from fun q => c_81 (by rw [q.1]))] at e; exact e _ (by omega))
              | (rw [if_neg (show ¬ (pa = N.1 ∧ decide (¬ C.2.2.2.2.2.1 N.1 < C.1) = true) from fun q => absurd (full_t2 c_91) (of_decide_eq_true q.2))] at e; exact e _ (by omega))
              | (rw [if_pos (show pa = N.1 ∧ decide (¬ C.2.2.2.2.2.1 N.1 < C.1) = true from ⟨(nI_eq (by omega) (by omega)).mp c_81, decide_eq_true (full_t3 c_91)⟩)] at e; exact e _ (by omega))
          · refine go_aload_n dX11_gaols_84 rfl ?_
            refine go_getf fX11_45 dX11_gaols_85 rfl rfl ?_
            refine go_callVi (z := MX0_hasAllWins) [10, 11, 12, 13, 14, 15, 16, 17] dX11_gaols_88 lX11_253 sX0_hasAllWins (ev_X0_hasAllWins _ _ _ _ _ _ _ _ _ N.1 hN) rfl rfl rfl rfl rfl ⟨_, _, rfl⟩ rfl rfl ?_
            refine go_if_eq 97 dX11_gaols_91 (by decide) (fun c_91 => ?_) (fun c_91 => ?_)
            · refine go_iincN (1) dX11_gaols_97 rfl (by decide) (by decide) ?_
              refine go_goto 40 dX11_gaols_100 (by decide) ?_
              rw [nI_1]
              first
                | (rw [if_neg (show ¬ (pa = N.1 ∧ decide (¬ C.2.2.2.2.2.1 N.1 < C.1) = true) from fun q => c_81 (by rw [q.1]))] at e; exact e _ (by omega))
                | (rw [if_neg (show ¬ (pa = N.1 ∧ decide (¬ C.2.2.2.2.2.1 N.1 < C.1) = true) from fun q => absurd (full_t2 c_91) (of_decide_eq_true q.2))] at e; exact e _ (by omega))
                | (rw [if_pos (show pa = N.1 ∧ decide (¬ C.2.2.2.2.2.1 N.1 < C.1) = true from ⟨(nI_eq (by omega) (by omega)).mp c_81, decide_eq_true (full_t3 c_91)⟩)] at e; exact e _ (by omega))
            · refine go_iincN (1) dX11_gaols_94 rfl (by decide) (by decide) ?_
              refine go_iincN (1) dX11_gaols_97 rfl (by decide) (by decide) ?_
              refine go_goto 40 dX11_gaols_100 (by decide) ?_
              rw [nI_1]
              first
                | (rw [if_neg (show ¬ (pa = N.1 ∧ decide (¬ C.2.2.2.2.2.1 N.1 < C.1) = true) from fun q => c_81 (by rw [q.1]))] at e; exact e _ (by omega))
                | (rw [if_neg (show ¬ (pa = N.1 ∧ decide (¬ C.2.2.2.2.2.1 N.1 < C.1) = true) from fun q => absurd (full_t2 c_91) (of_decide_eq_true q.2))] at e; exact e _ (by omega))
                | (rw [if_pos (show pa = N.1 ∧ decide (¬ C.2.2.2.2.2.1 N.1 < C.1) = true from ⟨(nI_eq (by omega) (by omega)).mp c_81, decide_eq_true (full_t3 c_91)⟩)] at e; exact e _ (by omega))
      · refine go_bipush (-2) dX11_gaols_18 (by decide) ?_
        refine go_ireturn dX11_gaols_20 rfl rfl (Nat.le_of_ble_eq_true rfl) (Nat.le_of_ble_eq_true rfl) ?_
        exact Or.inl ⟨by first | exact Or.inl c_2 | exact Or.inr (Or.inl c_8) | exact Or.inr (Or.inr (void0 c_15)), rfl, rfl⟩
