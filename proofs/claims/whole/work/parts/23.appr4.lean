/-- LIVES by these terms, as a number above 16 to the WINS -/
def lvI (g : Nat) (pf : Nat → Int32) (nm : Nat → Nat) (s0 goal br : Int32) (h : Nat) : Int64 := if (wst g pf nm s0 goal br h).2 < goal then 0 else wA g pf nm s0 goal br h
def prcI (f : Nat → Int64) : Nat → Int32 × Int64
  | 0 => (0, -1)
  | v + 1 => if f v ≤ (prcI f v).2 then prcI f v else (nI v, f v)
def rulD (ok : Nat → Bool) : Nat → Int32
  | 0 => -1
  | k + 1 => if ok (k + 1) = true then nI (k + 1) else rulD ok k
def okR (f : Nat → Int64) (c : Int32) (k : Nat) : Bool := decide (¬ f k * 16 < c.toInt64 * (1 : Int64) <<< ((4 * nI k).toInt64 &&& 63))
def chnN (g : Nat) (pf : Nat → Int32) : Nat → Nat → Int32 → Nat
  | 0, r, _ => r
  | d + 1, r, a => if a < 0 ∨ nI g ≤ a then r else if r.testBit a.toNatClampNeg = true then r else chnN g pf d (r ||| 2 ^ a.toNatClampNeg) (if pf (5 * a.toNatClampNeg + 3) = 1 then pf (5 * a.toNatClampNeg + 4) else -1)
def brbN (ok : Nat → Bool) : Nat → Nat
  | 0 => 0
  | v + 1 => if ok v = true then brbN ok v ||| 2 ^ v else brbN ok v
theorem prcI_le {f : Nat → Int64} {v : Nat} (h : f v ≤ (prcI f v).2) : prcI f (v + 1) = prcI f v := if_pos h
theorem prcI_gt {f : Nat → Int64} {v : Nat} (h : ¬ f v ≤ (prcI f v).2) : prcI f (v + 1) = (nI v, f v) := if_neg h
theorem rulD_t {ok : Nat → Bool} {k : Nat} (h : ok (k + 1) = true) : rulD ok (k + 1) = nI (k + 1) := if_pos h
theorem rulD_f {ok : Nat → Bool} {k : Nat} (h : ¬ ok (k + 1) = true) : rulD ok (k + 1) = rulD ok k := if_neg h
theorem brb_t {ok : Nat → Bool} {v : Nat} (h : ok v = true) : brbN ok (v + 1) = brbN ok v ||| 2 ^ v := if_pos h
theorem brb_f {ok : Nat → Bool} {v : Nat} (h : ¬ ok v = true) : brbN ok (v + 1) = brbN ok v := if_neg h
theorem okD_congr {ft ft2 a b : Nat → Int32} (h : ∀ f, f < 8 → ft f = ft2 f) : ∀ d i, okD ft a b d i = okD ft2 a b d i
  | 0, i => rfl
  | d + 1, i => by
    have e : fateI ft (a i) = fateI ft2 (a i) := by
      unfold fateI
      by_cases q : a i < 0 ∨ 8 ≤ a i
      · rw [if_pos q, if_pos q]
      · rw [if_neg q, if_neg q]
        exact h _ (in_range (n := 8) (fun z => q (Or.inl z)) (fun z => q (Or.inr z)) (by decide)).2
    rw [okD, okD, e, okD_congr h d (i + 1)]
theorem brb_lt (ok : Nat → Bool) : ∀ v, brbN ok v < 2 ^ v
  | 0 => by simp [brbN]
  | v + 1 => by
    rw [brbN]
    have h1 := brb_lt ok v
    have h2 : (2 : Nat) ^ v < 2 ^ (v + 1) := Nat.pow_lt_pow_right (by decide) (by omega)
    split
    · exact Nat.or_lt_two_pow (by omega) h2
    · omega
/-- by a bribe, or another array of the gang: whether all that was SEEN comes out so -/
def seenB (g : Nat) (pf : Nat → Int32) (nm : Nat → Nat) (s0 goal br : Int32) (h : Nat) (S : TS) : Bool := okD (wF g pf nm s0 goal br h) S.2.1 S.2.2 S.1 0
theorem bool1 {b : Bool} (h : ¬ (if b = true then (1 : Int32) else 0) = 0) : b = true := void1 h
theorem bool0 {b : Bool} (h : (if b = true then (1 : Int32) else 0) = 0) : ¬ b = true := void0 h
set_option maxRecDepth 100000 in
theorem ev_X11_price (t0 t1 : TX) (G N : TG) (T : TT) (C D : TC) (P : TP) (S : TS) (H0 H1 H2 H3 : TH) (ta : Nat → Int32) (lf : Int32) (hG : G.1 ≤ 8) (hN : NOK N) : Ev MX11_price [.ref 0] (cwd t0 t1 G N T C D P S H0 H1 H2 H3 ta lf) (fun v w => v = some (.int (prcI (fun v => lvI G.1 G.2.2 (nmR N.2.2) (nI T.1) (nI T.2.1) (nI v) N.1) 10).1) ∧ ∃ D2 : TC, w = (cwd t0 t1 G N T C D2 P S H0 H1 H2 H3 ta lf)) := by
  refine ev_of bX11_price [some (.ref 0), none, none, none, none] (Nat.le_of_ble_eq_true rfl) rfl ?_
  refine go_iconst (0) dX11_price_0 (by decide) ?_
  refine go_istore_n dX11_price_1 (by decide) ?_
  refine go_ldc2_w dX11_price_2 kX11_196 ?_
  refine go_lstore_n dX11_price_5 (by decide) ?_
  refine go_iconst (0) dX11_price_6 (by decide) ?_
  refine go_istore dX11_price_7 (by decide) ?_
  suffices loop : ∀ (d i : Nat) (D : TC), i + d = 10 → Go X0 MX11_price (fun v w => v = some (.int (prcI (fun v => lvI G.1 G.2.2 (nmR N.2.2) (nI T.1) (nI T.2.1) (nI v) N.1) 10).1) ∧ ∃ D2 : TC, w = (cwd t0 t1 G N T C D2 P S H0 H1 H2 H3 ta lf)) 44 0 0 9 [some (.ref 0), some (.int (prcI (fun v => lvI G.1 G.2.2 (nmR N.2.2) (nI T.1) (nI T.2.1) (nI v) N.1) i).1), some (.long (prcI (fun v => lvI G.1 G.2.2 (nmR N.2.2) (nI T.1) (nI T.2.1) (nI v) N.1) i).2), none, some (.int (nI i))] [] (cwd t0 t1 G N T C D P S H0 H1 H2 H3 ta lf) from loop 10 0 D (by omega)
  intro d
  induction d with
  | zero =>
    intro i D hi
    obtain rfl : i = 10 := by omega
    refine go_iload dX11_price_9 rfl ?_
    refine go_bipush (10) dX11_price_11 (by decide) ?_
    refine go_icmp_ge 51 dX11_price_13 (by decide) (fun _ => ?_) (fun c_13 => absurd (by decide) c_13)
    refine go_iload_n dX11_price_51 rfl ?_
    refine go_ireturn dX11_price_52 rfl rfl (Nat.le_of_ble_eq_true rfl) (Nat.le_of_ble_eq_true rfl) ?_
    exact ⟨rfl, D, rfl⟩
  | succ d ih =>
    intro i D hi
    refine go_iload dX11_price_9 rfl ?_
    refine go_bipush (10) dX11_price_11 (by decide) ?_
    refine go_icmp_ge 51 dX11_price_13 (by decide) (fun c_13 => absurd c_13 (nI_ge (b := 10) (by omega) (by decide))) (fun _ => ?_)
    refine go_aload_n dX11_price_16 rfl ?_
    refine go_iload dX11_price_17 rfl ?_
    refine go_callVs (z := MX11_tryBribe) dX11_price_19 lX11_198 sX11_tryBribe (ev_X11_tryBribe t0 t1 G N T C D P S H0 H1 H2 H3 ta lf (nI i) hG hN) rfl rfl rfl ⟨_, _, rfl⟩ rfl rfl (fun v w1 h => by obtain ⟨-, D2, rfl, -⟩ := h; rfl) (fun v_19 w_19 h_19 => ?_)
    obtain ⟨rfl, ⟨d1, d2, D2⟩, rfl, hd1, hd2, hI⟩ := h_19
    dsimp only at hd1 hd2 hI
    subst hd1
    subst hd2
    refine go_aload_n dX11_price_22 rfl ?_
    refine go_getf fX11_49 dX11_price_23 rfl rfl ?_
    refine go_callVj (z := MX0_livesAbove) [18, 19, 20, 21, 22, 23, 24, 25] dX11_price_26 lX11_166 sX0_livesAbove (ev_X0_livesAbove _ _ _ _ _ _ _ _ _ N.1 hN.1) rfl rfl rfl rfl rfl ⟨_, _, rfl⟩ rfl rfl ?_
    rw [show (if D2.2.2.2.2.1 N.1 < nI T.2.1 then (0 : Int64) else D2.2.2.2.2.2.1 N.1) = (lvI G.1 G.2.2 (nmR N.2.2) (nI T.1) (nI T.2.1) (nI i) N.1) by rw [(hI.2.1 N.1 (Nat.le_refl _)).2.1, (hI.2.1 N.1 (Nat.le_refl _)).2.2.1]; rfl]
    refine go_lload_n dX11_price_29 rfl ?_
    refine go_lcmp dX11_price_30 ?_
    refine go_if_le 45 dX11_price_31 (by decide) (fun c_31 => ?_) (fun c_31 => ?_)
    · refine go_iincN (1) dX11_price_45 rfl (by decide) (by decide) ?_
      refine go_goto 9 dX11_price_48 (by decide) ?_
      rw [nI_1]
      have e := ih (i + 1) (nI N.1, nI T.2.1, D2) (by omega)
      first
        | (rw [prcI_le (f := (fun v => lvI G.1 G.2.2 (nmR N.2.2) (nI T.1) (nI T.2.1) (nI v) N.1)) (v := i) ((lg_cmp_le _ _).mp c_31)] at e; exact e)
        | (rw [prcI_gt (f := (fun v => lvI G.1 G.2.2 (nmR N.2.2) (nI T.1) (nI T.2.1) (nI v) N.1)) (v := i) (fun q => c_31 ((lg_cmp_le _ _).mpr q))] at e; exact e)
    · refine go_aload_n dX11_price_34 rfl ?_
      refine go_getf fX11_49 dX11_price_35 rfl rfl ?_
      refine go_callVj (z := MX0_livesAbove) [18, 19, 20, 21, 22, 23, 24, 25] dX11_price_38 lX11_166 sX0_livesAbove (ev_X0_livesAbove _ _ _ _ _ _ _ _ _ N.1 hN.1) rfl rfl rfl rfl rfl ⟨_, _, rfl⟩ rfl rfl ?_
      rw [show (if D2.2.2.2.2.1 N.1 < nI T.2.1 then (0 : Int64) else D2.2.2.2.2.2.1 N.1) = (lvI G.1 G.2.2 (nmR N.2.2) (nI T.1) (nI T.2.1) (nI i) N.1) by rw [(hI.2.1 N.1 (Nat.le_refl _)).2.1, (hI.2.1 N.1 (Nat.le_refl _)).2.2.1]; rfl]
      refine go_lstore_n dX11_price_41 (by decide) ?_
      refine go_iload dX11_price_42 rfl ?_
      refine go_istore_n dX11_price_44 (by decide) ?_
      refine go_iincN (1) dX11_price_45 rfl (by decide) (by decide) ?_
      refine go_goto 9 dX11_price_48 (by decide) ?_
      rw [nI_1]
      have e := ih (i + 1) (nI N.1, nI T.2.1, D2) (by omega)
      first
        | (rw [prcI_le (f := (fun v => lvI G.1 G.2.2 (nmR N.2.2) (nI T.1) (nI T.2.1) (nI v) N.1)) (v := i) ((lg_cmp_le _ _).mp c_31)] at e; exact e)
        | (rw [prcI_gt (f := (fun v => lvI G.1 G.2.2 (nmR N.2.2) (nI T.1) (nI T.2.1) (nI v) N.1)) (v := i) (fun q => c_31 ((lg_cmp_le _ _).mpr q))] at e; exact e)
set_option maxRecDepth 100000 in
theorem ev_X11_rule (t0 t1 : TX) (G N : TG) (T : TT) (C D : TC) (P : TP) (S : TS) (H0 H1 H2 H3 : TH) (ta : Nat → Int32) (lf : Int32) (hG : G.1 ≤ 8) (hN : NOK N) (c : Int32) : Ev MX11_rule [.ref 0, .int c] (cwd t0 t1 G N T C D P S H0 H1 H2 H3 ta lf) (fun v w => (c < 0 ∨ 16 < c) ∧ v = some (.int (-2)) ∧ w = (cwd t0 t1 G N T C D P S H0 H1 H2 H3 ta lf) ∨ ¬ (c < 0 ∨ 16 < c) ∧ v = some (.int (rulD (okR (fun k => lvI G.1 G.2.2 (nmR N.2.2) (nI T.1) (nI k) (nI T.2.2) N.1) c) 8)) ∧ ∃ D2 : TC, w = (cwd t0 t1 G N T C D2 P S H0 H1 H2 H3 ta lf)) := by
  refine ev_of bX11_rule [some (.ref 0), some (.int c), none, none, none] (Nat.le_of_ble_eq_true rfl) rfl ?_
  refine go_iload_n dX11_rule_0 rfl ?_
  refine go_if_lt 10 dX11_rule_1 (by decide) (fun c_1 => ?_) (fun c_1 => ?_)
  · refine go_bipush (-2) dX11_rule_10 (by decide) ?_
    refine go_ireturn dX11_rule_12 rfl rfl (Nat.le_of_ble_eq_true rfl) (Nat.le_of_ble_eq_true rfl) ?_
    exact Or.inl ⟨by first | exact Or.inl c_1 | exact Or.inr (by simpa using c_7), rfl, rfl⟩
  · refine go_iload_n dX11_rule_4 rfl ?_
    refine go_bipush (16) dX11_rule_5 (by decide) ?_
    refine go_icmp_le 13 dX11_rule_7 (by decide) (fun c_7 => ?_) (fun c_7 => ?_)
    · refine go_bipush (8) dX11_rule_13 (by decide) ?_
      refine go_istore_n dX11_rule_15 (by decide) ?_
      have hc : ¬ (c < 0 ∨ 16 < c) := fun q => q.elim c_1 (fun q => absurd c_7 (by simpa using q))
      suffices loop : ∀ (k : Nat) (E : TC) (x3 x4 : Option Value), k ≤ 8 → rulD (okR (fun k => lvI G.1 G.2.2 (nmR N.2.2) (nI T.1) (nI k) (nI T.2.2) N.1) c) 8 = rulD (okR (fun k => lvI G.1 G.2.2 (nmR N.2.2) (nI T.1) (nI k) (nI T.2.2) N.1) c) k → Go X0 MX11_rule (fun v w => (c < 0 ∨ 16 < c) ∧ v = some (.int (-2)) ∧ w = (cwd t0 t1 G N T C D P S H0 H1 H2 H3 ta lf) ∨ ¬ (c < 0 ∨ 16 < c) ∧ v = some (.int (rulD (okR (fun k => lvI G.1 G.2.2 (nmR N.2.2) (nI T.1) (nI k) (nI T.2.2) N.1) c) 8)) ∧ ∃ D2 : TC, w = (cwd t0 t1 G N T C D2 P S H0 H1 H2 H3 ta lf)) 44 0 0 16 [some (.ref 0), some (.int c), some (.int (nI k)), x3, x4] [] (cwd t0 t1 G N T C E P S H0 H1 H2 H3 ta lf) from loop 8 D _ _ (by omega) rfl
      intro k
      induction k with
      | zero =>
        intro E x3 x4 hk he
        refine go_iload_n dX11_rule_16 rfl ?_
        refine go_iconst (1) dX11_rule_17 (by decide) ?_
        refine go_icmp_lt 84 dX11_rule_18 (by decide) (fun _ => ?_) (fun c_18 => absurd (by decide) c_18)
        refine go_iconst (-1) dX11_rule_84 (by decide) ?_
        refine go_ireturn dX11_rule_85 rfl rfl (Nat.le_of_ble_eq_true rfl) (Nat.le_of_ble_eq_true rfl) ?_
        exact Or.inr ⟨hc, by rw [he]; rfl, E, rfl⟩
      | succ k ih =>
        intro E x3 x4 hk he
        refine go_iload_n dX11_rule_16 rfl ?_
        refine go_iconst (1) dX11_rule_17 (by decide) ?_
        refine go_icmp_lt 84 dX11_rule_18 (by decide) (fun c_18 => absurd c_18 (nI_nlt (b := 1) (by omega) (by omega))) (fun _ => ?_)
        refine go_aload_n dX11_rule_21 rfl ?_
        refine go_getf fX11_49 dX11_rule_22 rfl rfl ?_
        refine go_aload_n dX11_rule_25 rfl ?_
        refine go_getf fX11_24 dX11_rule_26 rfl rfl ?_
        refine go_aload_n dX11_rule_29 rfl ?_
        refine go_getf fX11_31 dX11_rule_30 rfl rfl ?_
        refine go_aload_n dX11_rule_33 rfl ?_
        refine go_getf fX11_38 dX11_rule_34 rfl rfl ?_
        refine go_getf fX11_77 dX11_rule_37 rfl rfl ?_
        refine go_iload_n dX11_rule_40 rfl ?_
        refine go_aload_n dX11_rule_41 rfl ?_
        refine go_getf fX11_38 dX11_rule_42 rfl rfl ?_
        refine go_getf fX11_201 dX11_rule_45 rfl rfl ?_
        refine go_callV (z := MX0_walk) [18, 19, 20, 21, 22, 23, 24, 25, 5, 6, 7, 8] dX11_rule_48 lX11_204 sX0_walk (ev_X0_walk _ _ _ _ _ _ _ _ _ _ G.1 N.1 hG hN.1 _ _ G.2.2 N.2.2 (nmR N.2.2) (fun i hi => (hN.2 i hi).1) (fun i hi => (hN.2 i hi).2) (nI T.1) (nI (k + 1)) (nI T.2.2)) rfl rfl rfl rfl rfl ⟨_, _, rfl⟩ (fit_of rfl) (res_of rfl) (fun v w1 h => by obtain ⟨-, _, _, _, _, _, _, _, rfl, -⟩ := h; rfl) (fun v_48 w_48 h_48 => ?_)
        obtain ⟨rfl, cm, sx, sg, wn, inn, ft, ab, rfl, hI⟩ := h_48
        refine go_lconst 1 dX11_rule_51 (by decide) ?_
        refine go_iconst (4) dX11_rule_52 (by decide) ?_
        refine go_iload_n dX11_rule_53 rfl ?_
        refine go_imul dX11_rule_54 ?_
        refine go_lshl dX11_rule_55 ?_
        refine go_lstore_n dX11_rule_56 (by decide) ?_
        refine go_aload_n dX11_rule_57 rfl ?_
        refine go_getf fX11_49 dX11_rule_58 rfl rfl ?_
        refine go_callVj (z := MX0_livesAbove) [18, 19, 20, 21, 22, 23, 24, 25] dX11_rule_61 lX11_166 sX0_livesAbove (ev_X0_livesAbove _ _ _ _ _ _ _ _ _ N.1 hN.1) rfl rfl rfl rfl rfl ⟨_, _, rfl⟩ rfl rfl ?_
        rw [show (if wn N.1 < nI (k + 1) then (0 : Int64) else ab N.1) = lvI G.1 G.2.2 (nmR N.2.2) (nI T.1) (nI (k + 1)) (nI T.2.2) N.1 by rw [(hI.2.1 N.1 (Nat.le_refl _)).2.1, (hI.2.1 N.1 (Nat.le_refl _)).2.2.1]; rfl]
        refine go_ldc2_w dX11_rule_64 kX11_208 ?_
        refine go_lmul dX11_rule_67 ?_
        refine go_iload_n dX11_rule_68 rfl ?_
        refine go_i2l dX11_rule_69 ?_
        refine go_lload_n dX11_rule_70 rfl ?_
        refine go_lmul dX11_rule_71 ?_
        refine go_lcmp dX11_rule_72 ?_
        refine go_if_lt 78 dX11_rule_73 (by decide) (fun c_73 => ?_) (fun c_73 => ?_)
        · refine go_iincN (-1) dX11_rule_78 rfl (by decide) (by decide) ?_
          refine go_goto 16 dX11_rule_81 (by decide) ?_
          rw [show nI (k + 1) + -1 = nI k from pk_m1 k]
          have hok : ¬ okR (fun k => lvI G.1 G.2.2 (nmR N.2.2) (nI T.1) (nI k) (nI T.2.2) N.1) c (k + 1) = true := fun q => absurd ((lg_cmp_lt _ _).mp c_73) (of_decide_eq_true q)
          exact ih (nI N.1, nI (k + 1), wH G.1 G.2.2 (nmR N.2.2) (nI T.1) (nI (k + 1)) (nI T.2.2) N.1, cm, sx, sg, wn, ab, inn, ft) _ _ (by omega) (by rw [he, rulD_f hok])
        · refine go_iload_n dX11_rule_76 rfl ?_
          refine go_ireturn dX11_rule_77 rfl rfl (Nat.le_of_ble_eq_true rfl) (Nat.le_of_ble_eq_true rfl) ?_
          have hok : okR (fun k => lvI G.1 G.2.2 (nmR N.2.2) (nI T.1) (nI k) (nI T.2.2) N.1) c (k + 1) = true := decide_eq_true (fun q => c_73 ((lg_cmp_lt _ _).mpr q))
          exact Or.inr ⟨hc, by rw [he, rulD_t hok], (nI N.1, nI (k + 1), _, cm, sx, sg, wn, ab, inn, ft), rfl⟩
    · refine go_bipush (-2) dX11_rule_10 (by decide) ?_
      refine go_ireturn dX11_rule_12 rfl rfl (Nat.le_of_ble_eq_true rfl) (Nat.le_of_ble_eq_true rfl) ?_
      exact Or.inl ⟨by first | exact Or.inl c_1 | exact Or.inr (by simpa using c_7), rfl, rfl⟩
set_option maxRecDepth 100000 in
theorem ev_X11_chain (t0 t1 : TX) (G N : TG) (T : TT) (C D : TC) (P : TP) (S : TS) (H0 H1 H2 H3 : TH) (ta : Nat → Int32) (lf : Int32) (hG : G.1 ≤ 8) (x : Int32) : Ev MX11_chain [.ref 0, .int x] (cwd t0 t1 G N T C D P S H0 H1 H2 H3 ta lf) (Ri (cwd t0 t1 G N T C D P S H0 H1 H2 H3 ta lf) (if x < 0 ∨ nI G.1 ≤ x then -2 else nI (chnN G.1 G.2.2 8 0 x))) := by
  refine ev_of bX11_chain [some (.ref 0), some (.int x), none, none, none] (Nat.le_of_ble_eq_true rfl) rfl ?_
  refine go_aload_n dX11_chain_0 rfl ?_
  refine go_getf fX11_24 dX11_chain_1 rfl rfl ?_
  refine go_iload_n dX11_chain_4 rfl ?_
  refine go_callVi (z := MX2_has) [5, 6] dX11_chain_5 lX11_113 sX2_has (ev_X2_has _ _ _ _) rfl rfl rfl rfl rfl ⟨_, _, rfl⟩ rfl rfl ?_
  refine go_if_ne 14 dX11_chain_8 (by decide) (fun c_8 => ?_) (fun c_8 => ?_)
  · refine go_iconst (0) dX11_chain_14 (by decide) ?_
    refine go_istore_n dX11_chain_15 (by decide) ?_
    refine go_iload_n dX11_chain_16 rfl ?_
    refine go_istore_n dX11_chain_17 (by decide) ?_
    refine go_iconst (0) dX11_chain_18 (by decide) ?_
    refine go_istore dX11_chain_19 (by decide) ?_
    rw [if_neg (full_t3 c_8)]
    suffices loop : ∀ (d i r : Nat) (a : Int32), i + d = 8 → r < 256 → chnN G.1 G.2.2 8 0 x = chnN G.1 G.2.2 d r a → Go X0 MX11_chain (Ri (cwd t0 t1 G N T C D P S H0 H1 H2 H3 ta lf) (nI (chnN G.1 G.2.2 8 0 x))) 44 0 0 21 [some (.ref 0), some (.int x), some (.int (nI r)), some (.int a), some (.int (nI i))] [] (cwd t0 t1 G N T C D P S H0 H1 H2 H3 ta lf) from loop 8 0 0 x (by omega) (by decide) rfl
    intro d
    induction d with
    | zero =>
      intro i r a hi hr he
      refine go_iload dX11_chain_21 rfl ?_
      refine go_bipush (8) dX11_chain_23 (by decide) ?_
      refine go_icmp_ge 86 dX11_chain_25 (by decide) (fun _ => ?_) (fun c_25 => absurd (nI_le (a := 8) (by omega) (by omega)) c_25)
      refine go_iload_n dX11_chain_86 rfl ?_
      refine go_ireturn dX11_chain_87 rfl rfl (Nat.le_of_ble_eq_true rfl) (Nat.le_of_ble_eq_true rfl) ?_
      exact ⟨by rw [he]; rfl, rfl⟩
    | succ d ih =>
      intro i r a hi hr he
      replace he : chnN G.1 G.2.2 8 0 x = if a < 0 ∨ nI G.1 ≤ a then r else if r.testBit a.toNatClampNeg = true then r else chnN G.1 G.2.2 d (r ||| 2 ^ a.toNatClampNeg) (if G.2.2 (5 * a.toNatClampNeg + 3) = 1 then G.2.2 (5 * a.toNatClampNeg + 4) else -1) := he
      refine go_iload dX11_chain_21 rfl ?_
      refine go_bipush (8) dX11_chain_23 (by decide) ?_
      refine go_icmp_ge 86 dX11_chain_25 (by decide) (fun c_25 => absurd c_25 (nI_ge (b := 8) (by omega) (by decide))) (fun _ => ?_)
      refine go_aload_n dX11_chain_28 rfl ?_
      refine go_getf fX11_24 dX11_chain_29 rfl rfl ?_
      refine go_iload_n dX11_chain_32 rfl ?_
      refine go_callVi (z := MX2_has) [5, 6] dX11_chain_33 lX11_113 sX2_has (ev_X2_has _ _ _ _) rfl rfl rfl rfl rfl ⟨_, _, rfl⟩ rfl rfl ?_
      refine go_if_eq 86 dX11_chain_36 (by decide) (fun c_36 => ?_) (fun c_36 => ?_)
      · refine go_iload_n dX11_chain_86 rfl ?_
        refine go_ireturn dX11_chain_87 rfl rfl (Nat.le_of_ble_eq_true rfl) (Nat.le_of_ble_eq_true rfl) ?_
        first
          | exact ⟨by rw [he, if_pos (full_t2 c_36)], rfl⟩
          | exact ⟨by rw [he, if_pos (bit_f c_44)], rfl⟩
      · obtain ⟨ha1, ha2⟩ := in_range (fun q => full_t3 c_36 (Or.inl q)) (fun q => full_t3 c_36 (Or.inr q)) (show G.1 < 2 ^ 31 by omega)
        rw [if_neg (full_t3 c_36)] at he
        generalize hja : a.toNatClampNeg = j at he ha1 ha2
        subst ha1
        refine go_iload_n dX11_chain_39 rfl ?_
        refine go_iload_n dX11_chain_40 rfl ?_
        refine go_ishr dX11_chain_41 ?_
        refine go_iconst (1) dX11_chain_42 (by decide) ?_
        refine go_iand dX11_chain_43 ?_
        rw [shr_bit (show r < 2 ^ 31 by omega) (show j < 16 by omega)]
        refine go_if_ne 86 dX11_chain_44 (by decide) (fun c_44 => ?_) (fun c_44 => ?_)
        · refine go_iload_n dX11_chain_86 rfl ?_
          refine go_ireturn dX11_chain_87 rfl rfl (Nat.le_of_ble_eq_true rfl) (Nat.le_of_ble_eq_true rfl) ?_
          first
            | exact ⟨by rw [he, if_pos (full_t2 c_36)], rfl⟩
            | exact ⟨by rw [he, if_pos (bit_f c_44)], rfl⟩
        · refine go_iload_n dX11_chain_47 rfl ?_
          refine go_iconst (1) dX11_chain_48 (by decide) ?_
          refine go_iload_n dX11_chain_49 rfl ?_
          refine go_ishl dX11_chain_50 ?_
          refine go_ior dX11_chain_51 ?_
          rw [sh1 j (by omega), fa_or]
          refine go_istore_n dX11_chain_52 (by decide) ?_
          refine go_aload_n dX11_chain_53 rfl ?_
          refine go_getf fX11_24 dX11_chain_54 rfl rfl ?_
          refine go_iload_n dX11_chain_57 rfl ?_
          refine go_iconst (3) dX11_chain_58 (by decide) ?_
          refine go_callVi (z := MX2_part) [5, 6] dX11_chain_59 lX11_116 sX2_part (ev_partE (j := j) (k := 3) rfl rfl (by omega) (by decide)) rfl rfl rfl rfl rfl ⟨_, _, rfl⟩ rfl rfl ?_
          refine go_iconst (1) dX11_chain_62 (by decide) ?_
          refine go_cut2 (J := 79) (fun v => v = if G.2.2 (5 * j + 3) = 1 then G.2.2 (5 * j + 4) else -1) (fun v_79 hv_79 => ?_) (fun kk_79 => ?_)
          case refine_2 =>
            refine go_icmp_ne 78 dX11_chain_63 (by decide) (fun c_63 => ?_) (fun c_63 => ?_)
            · refine go_iconst (-1) dX11_chain_78 (by decide) ?_
              exact kk_79 _ (by simp [c_63])
            · refine go_aload_n dX11_chain_66 rfl ?_
              refine go_getf fX11_24 dX11_chain_67 rfl rfl ?_
              refine go_iload_n dX11_chain_70 rfl ?_
              refine go_iconst (4) dX11_chain_71 (by decide) ?_
              refine go_callVi (z := MX2_part) [5, 6] dX11_chain_72 lX11_116 sX2_part (ev_partE (j := j) (k := 4) rfl rfl (by omega) (by decide)) rfl rfl rfl rfl rfl ⟨_, _, rfl⟩ rfl rfl ?_
              refine go_goto 79 dX11_chain_75 (by decide) ?_
              exact kk_79 _ (by simp [c_63])
          subst hv_79
          refine go_istore_n dX11_chain_79 (by decide) ?_
          refine go_iincN (1) dX11_chain_80 rfl (by decide) (by decide) ?_
          refine go_goto 21 dX11_chain_83 (by decide) ?_
          rw [nI_1]
          exact ih (i + 1) (r ||| 2 ^ j) _ (by omega) (or_lt (g := 8) hr (by omega)) (by rw [he, if_neg (by rw [bit_t c_44]; decide)])
  · refine go_bipush (-2) dX11_chain_11 (by decide) ?_
    refine go_ireturn dX11_chain_13 rfl rfl (Nat.le_of_ble_eq_true rfl) (Nat.le_of_ble_eq_true rfl) ?_
    exact ⟨by rw [if_pos (full_t2 c_8)], rfl⟩
set_option maxRecDepth 100000 in
theorem ev_X11_bribes (t0 t1 : TX) (G N : TG) (T : TT) (C D : TC) (P : TP) (S : TS) (H0 H1 H2 H3 : TH) (ta : Nat → Int32) (lf : Int32) (hG : G.1 ≤ 8) (hN : NOK N) (hS : S.1 ≤ 8) : Ev MX11_bribes [.ref 0] (cwd t0 t1 G N T C D P S H0 H1 H2 H3 ta lf) (fun v w => v = some (.int (nI (brbN (fun v => seenB G.1 G.2.2 (nmR N.2.2) (nI T.1) (nI T.2.1) (nI v) N.1 S) 10))) ∧ ∃ D2 : TC, w = (cwd t0 t1 G N T C D2 P S H0 H1 H2 H3 ta lf)) := by
  refine ev_of bX11_bribes [some (.ref 0), none, none] (Nat.le_of_ble_eq_true rfl) rfl ?_
  refine go_iconst (0) dX11_bribes_0 (by decide) ?_
  refine go_istore_n dX11_bribes_1 (by decide) ?_
  refine go_iconst (0) dX11_bribes_2 (by decide) ?_
  refine go_istore_n dX11_bribes_3 (by decide) ?_
  suffices loop : ∀ (d i : Nat) (D : TC), i + d = 10 → Go X0 MX11_bribes (fun v w => v = some (.int (nI (brbN (fun v => seenB G.1 G.2.2 (nmR N.2.2) (nI T.1) (nI T.2.1) (nI v) N.1 S) 10))) ∧ ∃ D2 : TC, w = (cwd t0 t1 G N T C D2 P S H0 H1 H2 H3 ta lf)) 44 0 0 4 [some (.ref 0), some (.int (nI (brbN (fun v => seenB G.1 G.2.2 (nmR N.2.2) (nI T.1) (nI T.2.1) (nI v) N.1 S) i))), some (.int (nI i))] [] (cwd t0 t1 G N T C D P S H0 H1 H2 H3 ta lf) from loop 10 0 D (by omega)
  intro d
  induction d with
  | zero =>
    intro i D hi
    obtain rfl : i = 10 := by omega
    refine go_iload_n dX11_bribes_4 rfl ?_
    refine go_bipush (10) dX11_bribes_5 (by decide) ?_
    refine go_icmp_ge 41 dX11_bribes_7 (by decide) (fun _ => ?_) (fun c_7 => absurd (by decide) c_7)
    refine go_iload_n dX11_bribes_41 rfl ?_
    refine go_ireturn dX11_bribes_42 rfl rfl (Nat.le_of_ble_eq_true rfl) (Nat.le_of_ble_eq_true rfl) ?_
    exact ⟨rfl, D, rfl⟩
  | succ d ih =>
    intro i D hi
    refine go_iload_n dX11_bribes_4 rfl ?_
    refine go_bipush (10) dX11_bribes_5 (by decide) ?_
    refine go_icmp_ge 41 dX11_bribes_7 (by decide) (fun c_7 => absurd c_7 (nI_ge (b := 10) (by omega) (by decide))) (fun _ => ?_)
    refine go_aload_n dX11_bribes_10 rfl ?_
    refine go_iload_n dX11_bribes_11 rfl ?_
    refine go_callVs (z := MX11_tryBribe) dX11_bribes_12 lX11_198 sX11_tryBribe (ev_X11_tryBribe t0 t1 G N T C D P S H0 H1 H2 H3 ta lf (nI i) hG hN) rfl rfl rfl ⟨_, _, rfl⟩ rfl rfl (fun v w1 h => by obtain ⟨-, D2, rfl, -⟩ := h; rfl) (fun v_12 w_12 h_12 => ?_)
    obtain ⟨rfl, ⟨d1, d2, D2⟩, rfl, hd1, hd2, hI⟩ := h_12
    dsimp only at hd1 hd2 hI
    subst hd1
    subst hd2
    refine go_aload_n dX11_bribes_15 rfl ?_
    refine go_getf fX11_62 dX11_bribes_16 rfl rfl ?_
    refine go_aload_n dX11_bribes_19 rfl ?_
    refine go_getf fX11_49 dX11_bribes_20 rfl rfl ?_
    refine go_callVi (z := MX7_comeOutBy) [31, 32, 33, 18, 19, 20, 21, 22, 23, 24, 25] dX11_bribes_23 lX11_228 sX7_comeOutBy (ev_X7_comeOutBy _ _ _ _ _ _ _ _ _ _ S.1 hS _ _) rfl rfl rfl rfl rfl ⟨_, _, rfl⟩ rfl rfl ?_
    rw [okD_congr (fun f hf => hI.2.2.1 f hf) S.1 0]
    rw [show okD (wF G.1 G.2.2 (nmR N.2.2) (nI T.1) (nI T.2.1) (nI i) N.1) S.2.1 S.2.2 S.1 0 = (fun v => seenB G.1 G.2.2 (nmR N.2.2) (nI T.1) (nI T.2.1) (nI v) N.1 S) i from rfl]
    refine go_if_eq 35 dX11_bribes_26 (by decide) (fun c_26 => ?_) (fun c_26 => ?_)
    · refine go_iincN (1) dX11_bribes_35 rfl (by decide) (by decide) ?_
      refine go_goto 4 dX11_bribes_38 (by decide) ?_
      rw [nI_1]
      have e := ih (i + 1) (nI N.1, nI T.2.1, D2) (by omega)
      first
        | (rw [brb_t (ok := (fun v => seenB G.1 G.2.2 (nmR N.2.2) (nI T.1) (nI T.2.1) (nI v) N.1 S)) (v := i) (bool1 c_26)] at e; exact e)
        | (rw [brb_f (ok := (fun v => seenB G.1 G.2.2 (nmR N.2.2) (nI T.1) (nI T.2.1) (nI v) N.1 S)) (v := i) (bool0 c_26)] at e; exact e)
    · refine go_iload_n dX11_bribes_29 rfl ?_
      refine go_iconst (1) dX11_bribes_30 (by decide) ?_
      refine go_iload_n dX11_bribes_31 rfl ?_
      refine go_ishl dX11_bribes_32 ?_
      refine go_ior dX11_bribes_33 ?_
      rw [sh1 i (by omega), fa_or]
      refine go_istore_n dX11_bribes_34 (by decide) ?_
      refine go_iincN (1) dX11_bribes_35 rfl (by decide) (by decide) ?_
      refine go_goto 4 dX11_bribes_38 (by decide) ?_
      rw [nI_1]
      have e := ih (i + 1) (nI N.1, nI T.2.1, D2) (by omega)
      first
        | (rw [brb_t (ok := (fun v => seenB G.1 G.2.2 (nmR N.2.2) (nI T.1) (nI T.2.1) (nI v) N.1 S)) (v := i) (bool1 c_26)] at e; exact e)
        | (rw [brb_f (ok := (fun v => seenB G.1 G.2.2 (nmR N.2.2) (nI T.1) (nI T.2.1) (nI v) N.1 S)) (v := i) (bool0 c_26)] at e; exact e)
set_option maxRecDepth 100000 in
theorem ev_kinds1 (t0 t1 : TX) (G N : TG) (T : TT) (C D : TC) (P : TP) (S : TS) (H0 H1 H2 H3 : TH) (ta : Nat → Int32) (lf : Int32) (hG : G.1 ≤ 8) (hN : NOK N) (hS : S.1 ≤ 8) (j : Nat) (hj : j < G.1) : Ev MX11_kinds [.ref 0, .int (nI j)] (cwd t0 t1 G N T C D P S H0 H1 H2 H3 ta lf) (fun v w => v = some (.int (nI (brbN (fun v => seenB G.1 (upd G.2.2 (5 * j) (nI v)) (nmR N.2.2) (nI T.1) (nI T.2.1) (nI T.2.2) N.1 S) 4))) ∧ ∃ D2 : TC, w = (cwd t0 t1 G N T C D2 P S H0 H1 H2 H3 ta lf)) := by
  refine ev_of bX11_kinds [some (.ref 0), some (.int (nI j)), none, none, none] (Nat.le_of_ble_eq_true rfl) rfl ?_
  refine go_aload_n dX11_kinds_0 rfl ?_
  refine go_getf fX11_24 dX11_kinds_1 rfl rfl ?_
  refine go_iload_n dX11_kinds_4 rfl ?_
  refine go_callVi (z := MX2_has) [5, 6] dX11_kinds_5 lX11_113 sX2_has (ev_X2_has _ _ _ _) rfl rfl rfl rfl rfl ⟨_, _, rfl⟩ rfl rfl ?_
  rw [has_t hj (by omega)]
  refine go_if_ne 14 dX11_kinds_8 (by decide) (fun _ => ?_) (fun c_8 => absurd c_8 (by decide))
  refine go_aload_n dX11_kinds_14 rfl ?_
  refine go_getf fX11_24 dX11_kinds_15 rfl rfl ?_
  refine go_iload_n dX11_kinds_18 rfl ?_
  refine go_iconst (0) dX11_kinds_19 (by decide) ?_
  refine go_callVi (z := MX2_part) [5, 6] dX11_kinds_20 lX11_116 sX2_part (ev_partE (j := j) (k := 0) rfl rfl (by omega) (by decide)) rfl rfl rfl rfl rfl ⟨_, _, rfl⟩ rfl rfl ?_
  refine go_istore_n dX11_kinds_23 (by decide) ?_
  refine go_iconst (0) dX11_kinds_24 (by decide) ?_
  refine go_istore_n dX11_kinds_25 (by decide) ?_
  refine go_iconst (0) dX11_kinds_26 (by decide) ?_
  refine go_istore dX11_kinds_27 (by decide) ?_
  suffices loop : ∀ (d i : Nat) (D : TC) (pfc : Nat → Int32), i + d = 4 → (∀ y, upd pfc (5 * j) y = upd G.2.2 (5 * j) y) → Go X0 MX11_kinds (fun v w => v = some (.int (nI (brbN (fun v => seenB G.1 (upd G.2.2 (5 * j) (nI v)) (nmR N.2.2) (nI T.1) (nI T.2.1) (nI T.2.2) N.1 S) 4))) ∧ ∃ D2 : TC, w = (cwd t0 t1 G N T C D2 P S H0 H1 H2 H3 ta lf)) 44 0 0 29 [some (.ref 0), some (.int (nI j)), some (.int (G.2.2 (5 * j + 0))), some (.int (nI (brbN (fun v => seenB G.1 (upd G.2.2 (5 * j) (nI v)) (nmR N.2.2) (nI T.1) (nI T.2.1) (nI T.2.2) N.1 S) i))), some (.int (nI i))] [] (cwd t0 t1 (G.1, G.2.1, pfc) N T C D P S H0 H1 H2 H3 ta lf) from loop 4 0 D G.2.2 (by omega) (fun _ => rfl)
  intro d
  induction d with
  | zero =>
    intro i D pfc hi hu
    obtain rfl : i = 4 := by omega
    refine go_iload dX11_kinds_29 rfl ?_
    refine go_iconst (4) dX11_kinds_31 (by decide) ?_
    refine go_icmp_ge 83 dX11_kinds_32 (by decide) (fun _ => ?_) (fun c_32 => absurd (by decide) c_32)
    refine go_aload_n dX11_kinds_83 rfl ?_
    refine go_getf fX11_24 dX11_kinds_84 rfl rfl ?_
    refine go_iload_n dX11_kinds_87 rfl ?_
    refine go_iload_n dX11_kinds_88 rfl ?_
    refine go_callVw (z := MX2_putKind) [5, 6] _ dX11_kinds_89 lX11_232 sX2_putKind (ev_X2_putKind G.1 j hj hG _ (G.2.2 (5 * j + 0)) _) rfl rfl rfl rfl rfl ⟨_, _, rfl⟩ rfl rfl rfl rfl ?_
    refine go_iload_n dX11_kinds_92 rfl ?_
    refine go_ireturn dX11_kinds_93 rfl rfl (Nat.le_of_ble_eq_true rfl) (Nat.le_of_ble_eq_true rfl) ?_
    refine ⟨rfl, D, ?_⟩
    rw [hu, show upd G.2.2 (5 * j) (G.2.2 (5 * j + 0)) = G.2.2 from funext fun t => by
      unfold upd
      split
      · rename_i q; rw [q]; rfl
      · rfl]
    rfl
  | succ d ih =>
    intro i D pfc hi hu
    refine go_iload dX11_kinds_29 rfl ?_
    refine go_iconst (4) dX11_kinds_31 (by decide) ?_
    refine go_icmp_ge 83 dX11_kinds_32 (by decide) (fun c_32 => absurd c_32 (nI_ge (b := 4) (by omega) (by decide))) (fun _ => ?_)
    refine go_aload_n dX11_kinds_35 rfl ?_
    refine go_getf fX11_24 dX11_kinds_36 rfl rfl ?_
    refine go_iload_n dX11_kinds_39 rfl ?_
    refine go_iload dX11_kinds_40 rfl ?_
    refine go_callVw (z := MX2_putKind) [5, 6] _ dX11_kinds_42 lX11_232 sX2_putKind (ev_X2_putKind G.1 j hj hG _ (nI i) _) rfl rfl rfl rfl rfl ⟨_, _, rfl⟩ rfl rfl rfl rfl ?_
    rw [hu]
    refine go_aload_n dX11_kinds_45 rfl ?_
    refine go_aload_n dX11_kinds_46 rfl ?_
    refine go_getf fX11_38 dX11_kinds_47 rfl rfl ?_
    refine go_getf fX11_201 dX11_kinds_50 rfl rfl ?_
    refine go_callVs (z := MX11_tryBribe) dX11_kinds_53 lX11_198 sX11_tryBribe (ev_X11_tryBribe t0 t1 (G.1, G.2.1, upd G.2.2 (5 * j) (nI i)) N T C D P S H0 H1 H2 H3 ta lf (nI T.2.2) hG hN) rfl rfl rfl ⟨_, _, rfl⟩ rfl rfl (fun v w1 h => by obtain ⟨-, D2, rfl, -⟩ := h; rfl) (fun v_53 w_53 h_53 => ?_)
    obtain ⟨rfl, ⟨d1, d2, D2⟩, rfl, hd1, hd2, hI⟩ := h_53
    dsimp only at hd1 hd2 hI
    subst hd1
    subst hd2
    refine go_aload_n dX11_kinds_56 rfl ?_
    refine go_getf fX11_62 dX11_kinds_57 rfl rfl ?_
    refine go_aload_n dX11_kinds_60 rfl ?_
    refine go_getf fX11_49 dX11_kinds_61 rfl rfl ?_
    refine go_callVi (z := MX7_comeOutBy) [31, 32, 33, 18, 19, 20, 21, 22, 23, 24, 25] dX11_kinds_64 lX11_228 sX7_comeOutBy (ev_X7_comeOutBy _ _ _ _ _ _ _ _ _ _ S.1 hS _ _) rfl rfl rfl rfl rfl ⟨_, _, rfl⟩ rfl rfl ?_
    rw [okD_congr (fun f hf => hI.2.2.1 f hf) S.1 0]
    rw [show okD (wF G.1 (upd G.2.2 (5 * j) (nI i)) (nmR N.2.2) (nI T.1) (nI T.2.1) (nI T.2.2) N.1) S.2.1 S.2.2 S.1 0 = (fun v => seenB G.1 (upd G.2.2 (5 * j) (nI v)) (nmR N.2.2) (nI T.1) (nI T.2.1) (nI T.2.2) N.1 S) i from rfl]
    refine go_if_eq 77 dX11_kinds_67 (by decide) (fun c_67 => ?_) (fun c_67 => ?_)
    · refine go_iincN (1) dX11_kinds_77 rfl (by decide) (by decide) ?_
      refine go_goto 29 dX11_kinds_80 (by decide) ?_
      rw [nI_1]
      have e := ih (i + 1) (nI N.1, nI T.2.1, D2) (upd G.2.2 (5 * j) (nI i)) (by omega) (fun y => upd_upd _ _ _ _)
      first
        | (rw [brb_t (ok := (fun v => seenB G.1 (upd G.2.2 (5 * j) (nI v)) (nmR N.2.2) (nI T.1) (nI T.2.1) (nI T.2.2) N.1 S)) (v := i) (bool1 c_67)] at e; exact e)
        | (rw [brb_f (ok := (fun v => seenB G.1 (upd G.2.2 (5 * j) (nI v)) (nmR N.2.2) (nI T.1) (nI T.2.1) (nI T.2.2) N.1 S)) (v := i) (bool0 c_67)] at e; exact e)
    · refine go_iload_n dX11_kinds_70 rfl ?_
      refine go_iconst (1) dX11_kinds_71 (by decide) ?_
      refine go_iload dX11_kinds_72 rfl ?_
      refine go_ishl dX11_kinds_74 ?_
      refine go_ior dX11_kinds_75 ?_
      rw [sh1 i (by omega), fa_or]
      refine go_istore_n dX11_kinds_76 (by decide) ?_
      refine go_iincN (1) dX11_kinds_77 rfl (by decide) (by decide) ?_
      refine go_goto 29 dX11_kinds_80 (by decide) ?_
      rw [nI_1]
      have e := ih (i + 1) (nI N.1, nI T.2.1, D2) (upd G.2.2 (5 * j) (nI i)) (by omega) (fun y => upd_upd _ _ _ _)
      first
        | (rw [brb_t (ok := (fun v => seenB G.1 (upd G.2.2 (5 * j) (nI v)) (nmR N.2.2) (nI T.1) (nI T.2.1) (nI T.2.2) N.1 S)) (v := i) (bool1 c_67)] at e; exact e)
        | (rw [brb_f (ok := (fun v => seenB G.1 (upd G.2.2 (5 * j) (nI v)) (nmR N.2.2) (nI T.1) (nI T.2.1) (nI T.2.2) N.1 S)) (v := i) (bool0 c_67)] at e; exact e)
set_option maxRecDepth 100000 in
theorem ev_kinds0 (t0 t1 : TX) (G N : TG) (T : TT) (C D : TC) (P : TP) (S : TS) (H0 H1 H2 H3 : TH) (ta : Nat → Int32) (lf : Int32) (x : Int32) (hx : x < 0 ∨ nI G.1 ≤ x) : Ev MX11_kinds [.ref 0, .int x] (cwd t0 t1 G N T C D P S H0 H1 H2 H3 ta lf) (Ri (cwd t0 t1 G N T C D P S H0 H1 H2 H3 ta lf) (-2)) := by
  refine ev_of bX11_kinds [some (.ref 0), some (.int x), none, none, none] (Nat.le_of_ble_eq_true rfl) rfl ?_
  refine go_aload_n dX11_kinds_0 rfl ?_
  refine go_getf fX11_24 dX11_kinds_1 rfl rfl ?_
  refine go_iload_n dX11_kinds_4 rfl ?_
  refine go_callVi (z := MX2_has) [5, 6] dX11_kinds_5 lX11_113 sX2_has (ev_X2_has _ _ _ _) rfl rfl rfl rfl rfl ⟨_, _, rfl⟩ rfl rfl ?_
  refine go_if_ne 14 dX11_kinds_8 (by decide) (fun c_8 => absurd (if_pos hx) c_8) (fun _ => ?_)
  refine go_bipush (-2) dX11_kinds_11 (by decide) ?_
  refine go_ireturn dX11_kinds_13 rfl rfl (Nat.le_of_ble_eq_true rfl) (Nat.le_of_ble_eq_true rfl) ?_
  exact ⟨rfl, rfl⟩
