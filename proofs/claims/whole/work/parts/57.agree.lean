theorem ag_fault (x : Int32) : Agr isI MX11_fault MX12_fault [.int x] := by
  intro c m hs
  obtain ⟨t0, t1, G, N, T, C, D, P, S, H0, H1, H2, H3, ta, lf, U, B, F, A, se, R, O, V, al, dr, rfl, rfl, k⟩ := hs
  refine ⟨_, ev_X11_fault t0 t1 G N T C D P S H0 H1 H2 H3 ta lf x, ?_⟩
  rintro v c1 ⟨rfl, rfl⟩
  refine ⟨⟨_, rfl⟩, cw_of _ _ _ _ _ _ _ _ _ _ _ _ _ _ _, Ev.mono (ev_X12_fault U lf B F A se R O V al dr _ _ _ _ _ k.ok x) ?_⟩
  rintro v2 m1 ⟨F2, A2, rfl, rfl⟩
  refine ⟨?_, sim_of k⟩
  have e1 : G.2.1 = fltI t0.1 B.1 := by rw [k.gi.2.1]; exact (flt_cg k.q0.2).1
  have e2 : N.2.1 = nfl t1.1 (fun i => B.1 (48 + i)) := by rw [k.ni.2.1]; exact (nfl_cg k.q1.2).1
  rw [e1, e2]
theorem ag_felon (x y : Int32) : Agr isI MX11_felon MX12_felon [.int x, .int y] := by
  intro c m hs
  obtain ⟨t0, t1, G, N, T, C, D, P, S, H0, H1, H2, H3, ta, lf, U, B, F, A, se, R, O, V, al, dr, rfl, rfl, k⟩ := hs
  refine ⟨_, ev_X11_felon t0 t1 G N T C D P S H0 H1 H2 H3 ta lf x y k.hG, ?_⟩
  rintro v c1 ⟨rfl, rfl⟩
  refine ⟨⟨_, rfl⟩, cw_of _ _ _ _ _ _ _ _ _ _ _ _ _ _ _, Ev.mono (ev_X12_felon U lf B F A se R O V al dr _ _ _ _ _ k.ok x y) ?_⟩
  rintro v2 m1 ⟨F2, g1, rfl, rfl⟩
  refine ⟨?_, sim_of k⟩
  rw [k.fe g1]
  by_cases q : x < 0 ∨ nI G.1 ≤ x ∨ y < 0 ∨ 4 < y
  · rw [if_pos q, if_pos q]
  · rw [if_neg q, if_neg q]
    have hG := k.hG
    have hx := (in_range (fun z => q (Or.inl z)) (fun z => q (Or.inr (Or.inl z))) (show G.1 < 2 ^ 31 by omega)).2
    have hy := (in_range (x := y) (n := 5) (fun z => q (Or.inr (Or.inr (Or.inl z)))) (fun z => q (Or.inr (Or.inr (Or.inr ((le4 y).mpr z))))) (by decide)).2
    rw [k.pf g1 _ (by omega)]
theorem lt12 (x : Int32) : 11 < x ↔ ¬ x < 12 := (lt_pred (g := 12) (by decide) x).trans Int32.not_lt.symm
theorem lt8 (x : Int32) : 7 < x ↔ ¬ x < 8 := (lt_pred (g := 8) (by decide) x).trans Int32.not_lt.symm
theorem lt4 (x : Int32) : 3 < x ↔ 4 ≤ x := lt_pred (g := 4) (by decide) x
theorem lt3 (x : Int32) : 2 < x ↔ 3 ≤ x := lt_pred (g := 3) (by decide) x
theorem ag_name (x : Int32) : Agr isI MX11_name MX12_name [.int x] := by
  intro c m hs
  obtain ⟨t0, t1, G, N, T, C, D, P, S, H0, H1, H2, H3, ta, lf, U, B, F, A, se, R, O, V, al, dr, rfl, rfl, k⟩ := hs
  refine ⟨_, ev_X11_name t0 t1 G N T C D P S H0 H1 H2 H3 ta lf x k.hN.1, ?_⟩
  rintro v c1 ⟨rfl, rfl⟩
  refine ⟨⟨_, rfl⟩, cw_of _ _ _ _ _ _ _ _ _ _ _ _ _ _ _, Ev.mono (ev_X12_name U lf B F A se R O V al dr _ _ _ _ _ k.ok x) ?_⟩
  rintro v2 m1 ⟨A2, g2, rfl, rfl⟩
  refine ⟨?_, sim_of k⟩
  rw [k.ae g2]
  by_cases q : x < 0 ∨ ¬ x < 12
  · rw [if_pos (q.elim Or.inl (fun z => Or.inr ((lt12 x).mpr z))), if_pos q]
  · rw [if_neg (fun z => q (z.elim Or.inl (fun z => Or.inr ((lt12 x).mp z)))), if_neg q]
    have hx0 : ¬ x < 0 := fun z => q (Or.inl z)
    by_cases q2 : nI N.1 ≤ x
    · rw [if_pos q2, if_pos (Or.inr q2)]
    · rw [if_neg q2, if_neg (fun z => z.elim hx0 q2)]
      have hN := k.hN.1
      have hx := (in_range hx0 q2 (show N.1 < 2 ^ 31 by omega)).2
      rw [(k.neq g2).2.2 _ hx]
      rfl
theorem ag_comes (x y : Int32) : Agr isI MX11_comes MX12_comes [.int x, .int y] := by
  intro c m hs
  obtain ⟨t0, t1, G, N, T, C, D, P, S, H0, H1, H2, H3, ta, lf, U, B, F, A, se, R, O, V, al, dr, rfl, rfl, k⟩ := hs
  refine ⟨_, ev_X11_comes t0 t1 G N T C D P S H0 H1 H2 H3 ta lf x y k.hN.1, ?_⟩
  rintro v c1 ⟨rfl, rfl⟩
  refine ⟨⟨_, rfl⟩, cw_of _ _ _ _ _ _ _ _ _ _ _ _ _ _ _, Ev.mono (ev_X12_comes U lf B F A se R O V al dr _ _ _ _ _ k.ok x y) ?_⟩
  rintro v2 m1 ⟨F2, A2, R2, g1, g2, rfl, rfl⟩
  refine ⟨?_, sim_of k⟩
  rw [k.ae g2]
  by_cases q : x < 0 ∨ nI N.1 ≤ x ∨ ¬ (y = 0 ∨ y = 1)
  · rw [if_pos q, if_pos q]
  · rw [if_neg q, if_neg q]
    have hN := k.hN.1
    have hx := (in_range (fun z => q (Or.inl z)) (fun z => q (Or.inr (Or.inl z))) (show N.1 < 2 ^ 31 by omega)).2
    rw [k.cm g1 g2 _ hx, k.sx g1 g2 _ hx]
theorem ag_behind (x y : Int32) : Agr isI MX11_behind MX12_behind [.int x, .int y] := by
  intro c m hs
  obtain ⟨t0, t1, G, N, T, C, D, P, S, H0, H1, H2, H3, ta, lf, U, B, F, A, se, R, O, V, al, dr, rfl, rfl, k⟩ := hs
  refine ⟨_, ev_X11_behind t0 t1 G N T C D P S H0 H1 H2 H3 ta lf x y k.hN.1, ?_⟩
  rintro v c1 ⟨rfl, rfl⟩
  refine ⟨⟨_, rfl⟩, cw_of _ _ _ _ _ _ _ _ _ _ _ _ _ _ _, Ev.mono (ev_X12_behind U lf B F A se R O V al dr _ _ _ _ _ k.ok x y) ?_⟩
  rintro v2 m1 ⟨F2, A2, R2, g1, g2, rfl, rfl⟩
  refine ⟨?_, sim_of k⟩
  rw [k.ae g2]
  by_cases q : x < 0 ∨ nI N.1 < x ∨ ¬ (y = 0 ∨ y = 1)
  · rw [if_pos q, if_pos q]
  · rw [if_neg q, if_neg q]
    have hN := k.hN.1
    have hx := (in_range (n := N.1 + 1) (fun z => q (Or.inl z)) (fun z => q (Or.inr (Or.inl (lt_succ (by omega) z)))) (by omega)).2
    rw [(k.wst g1 g2 _ (by omega)).1, (k.wst g1 g2 _ (by omega)).2]
theorem ag_alive (x y : Int32) : Agr isL MX11_alive MX12_alive [.int x, .int y] := by
  intro c m hs
  obtain ⟨t0, t1, G, N, T, C, D, P, S, H0, H1, H2, H3, ta, lf, U, B, F, A, se, R, O, V, al, dr, rfl, rfl, k⟩ := hs
  refine ⟨_, ev_X11_alive t0 t1 G N T C D P S H0 H1 H2 H3 ta lf x y k.hN.1 (kC G N T) (aC G N T) (k.crs.nums k.hT.2), ?_⟩
  rintro v c1 ⟨rfl, rfl⟩
  refine ⟨⟨_, rfl⟩, cw_of _ _ _ _ _ _ _ _ _ _ _ _ _ _ _, Ev.mono (ev_X12_alive U lf B F A se R O V al dr _ _ _ _ _ k.ok x y) ?_⟩
  rintro v2 m1 ⟨F2, A2, R2, g1, g2, rfl, rfl⟩
  refine ⟨?_, sim_of k⟩
  rw [k.ae g2]
  by_cases q : x < 0 ∨ nI N.1 < x ∨ ¬ (y = 0 ∨ y = 1)
  · rw [if_pos q, if_pos q]
  · rw [if_neg q, if_neg q]
    have hN := k.hN.1
    have hx := (in_range (n := N.1 + 1) (fun z => q (Or.inl z)) (fun z => q (Or.inr (Or.inl (lt_succ (by omega) z)))) (by omega)).2
    rw [k.ok.e0, k.ok.e2, k.fe g1, aW_cg (k.pf g1) (k.nm g2) _ _ _ _ (by omega), kW_cg (k.pf g1) (k.nm g2) _ _ _ _ (by omega)]
    rfl
theorem ag_lives (y : Int32) : Agr isL MX11_lives MX12_lives [.int y] := by
  intro c m hs
  obtain ⟨t0, t1, G, N, T, C, D, P, S, H0, H1, H2, H3, ta, lf, U, B, F, A, se, R, O, V, al, dr, rfl, rfl, k⟩ := hs
  refine ⟨_, ev_X11_lives t0 t1 G N T C D P S H0 H1 H2 H3 ta lf y k.hN.1 k.crs.len (lC G N T) T.2.1 k.crs.goal k.hT.2 (k.crs.lives k.hT.2).1 (k.crs.lives k.hT.2).2, ?_⟩
  rintro v c1 ⟨rfl, rfl⟩
  refine ⟨⟨_, rfl⟩, cw_of _ _ _ _ _ _ _ _ _ _ _ _ _ _ _, Ev.mono (ev_X12_lives U lf B F A se R O V al dr _ _ _ _ _ k.ok y) ?_⟩
  rintro v2 m1 ⟨F2, A2, R2, g1, g2, rfl, rfl⟩
  refine ⟨?_, sim_of k⟩
  rw [k.ok.e0, k.ok.e2, k.fe g1, k.ae g2, lvW_cg (k.pf g1) (k.nm g2)]
  rfl
theorem ag_harm (y : Int32) : Agr isL MX11_harm MX12_harm [.int y] := by
  intro c m hs
  obtain ⟨t0, t1, G, N, T, C, D, P, S, H0, H1, H2, H3, ta, lf, U, B, F, A, se, R, O, V, al, dr, rfl, rfl, k⟩ := hs
  refine ⟨_, ev_X11_harm t0 t1 G N T C D P S H0 H1 H2 H3 ta lf y (harmC G N T) (k.crs.harm k.hT.2 k.hN.1).1 (k.crs.harm k.hT.2 k.hN.1).2, ?_⟩
  rintro v c1 ⟨rfl, rfl⟩
  refine ⟨⟨_, rfl⟩, cw_of _ _ _ _ _ _ _ _ _ _ _ _ _ _ _, Ev.mono (ev_X12_harm U lf B F A se R O V al dr _ _ _ _ _ k.ok y) ?_⟩
  rintro v2 m1 ⟨F2, A2, R2, g1, g2, rfl, rfl⟩
  refine ⟨?_, sim_of k⟩
  rw [k.ok.e0, k.ok.e2, k.fe g1, k.ae g2, hW_cg (k.pf g1) (k.nm g2) _ _ _ _ (Nat.le_refl _)]
  rfl
theorem ag_worst  : Agr isI MX11_worst MX12_worst [] := by
  intro c m hs
  obtain ⟨t0, t1, G, N, T, C, D, P, S, H0, H1, H2, H3, ta, lf, U, B, F, A, se, R, O, V, al, dr, rfl, rfl, k⟩ := hs
  refine ⟨_, ev_X11_worst t0 t1 G N T C D P S H0 H1 H2 H3 ta lf k.crs.len k.hN.1, ?_⟩
  rintro v c1 ⟨rfl, rfl⟩
  refine ⟨⟨_, rfl⟩, cw_of _ _ _ _ _ _ _ _ _ _ _ _ _ _ _, Ev.mono (ev_X12_worst U lf B F A se R O V al dr _ _ _ _ _ k.ok) ?_⟩
  rintro v2 m1 ⟨F2, A2, R2, g1, g2, rfl, rfl⟩
  refine ⟨?_, sim_of k⟩
  rw [k.ae g2, fw_congr (fun i hi => k.sx g1 g2 i hi)]
theorem ag_fate (x : Int32) : Agr isI MX11_fate MX12_fate [.int x] := by
  intro c m hs
  obtain ⟨t0, t1, G, N, T, C, D, P, S, H0, H1, H2, H3, ta, lf, U, B, F, A, se, R, O, V, al, dr, rfl, rfl, k⟩ := hs
  refine ⟨_, ev_X11_fate t0 t1 G N T C D P S H0 H1 H2 H3 ta lf x, ?_⟩
  rintro v c1 ⟨rfl, rfl⟩
  refine ⟨⟨_, rfl⟩, cw_of _ _ _ _ _ _ _ _ _ _ _ _ _ _ _, Ev.mono (ev_X12_fate U lf B F A se R O V al dr _ _ _ _ _ k.ok x) ?_⟩
  rintro v2 m1 ⟨F2, A2, R2, g1, g2, rfl, rfl⟩
  refine ⟨?_, sim_of k⟩
  have hfe := k.fe g1
  by_cases q : x < 0 ∨ nI G.1 ≤ x
  · rw [if_pos (show x < 0 ∨ nI F2.1 ≤ x by rw [hfe]; exact q), if_pos q]
  · rw [if_neg (show ¬ (x < 0 ∨ nI F2.1 ≤ x) by rw [hfe]; exact q), if_neg q]
    have hG := k.hG
    have hx := in_range (fun z => q (Or.inl z)) (fun z => q (Or.inr z)) (show G.1 < 2 ^ 31 by omega)
    rw [if_neg (fun z => z.elim (fun z => q (Or.inl z)) (fun z => by
      rw [hx.1] at z
      exact nI_ge (b := 8) (by omega) (by decide) z)), k.ft g1 g2 _ (by omega)]
theorem ag_chain (x : Int32) : Agr isI MX11_chain MX12_chain [.int x] := by
  intro c m hs
  obtain ⟨t0, t1, G, N, T, C, D, P, S, H0, H1, H2, H3, ta, lf, U, B, F, A, se, R, O, V, al, dr, rfl, rfl, k⟩ := hs
  refine ⟨_, ev_X11_chain t0 t1 G N T C D P S H0 H1 H2 H3 ta lf k.hG x, ?_⟩
  rintro v c1 ⟨rfl, rfl⟩
  refine ⟨⟨_, rfl⟩, cw_of _ _ _ _ _ _ _ _ _ _ _ _ _ _ _, Ev.mono (ev_X12_chain U lf B F A se R O V al dr _ _ _ _ _ k.ok x) ?_⟩
  rintro v2 m1 ⟨F2, A2, R2, g1, g2, rfl, rfl⟩
  refine ⟨?_, sim_of k⟩
  rw [k.fe g1]
  by_cases q : x < 0 ∨ nI G.1 ≤ x
  · rw [if_pos q, if_pos q]
  · rw [if_neg q, if_neg q]
    have hG := k.hG
    have hx := in_range (fun z => q (Or.inl z)) (fun z => q (Or.inr z)) (show G.1 < 2 ^ 31 by omega)
    rw [chn_cg k.hG (k.pf g1)]
theorem ag_price  : Agr isI MX11_price MX12_price [] := by
  intro c m hs
  obtain ⟨t0, t1, G, N, T, C, D, P, S, H0, H1, H2, H3, ta, lf, U, B, F, A, se, R, O, V, al, dr, rfl, rfl, k⟩ := hs
  refine ⟨_, ev_X11_price t0 t1 G N T C D P S H0 H1 H2 H3 ta lf k.hG k.hN, ?_⟩
  rintro v c1 ⟨rfl, D2, rfl⟩
  refine ⟨⟨_, rfl⟩, cw_of _ _ _ _ _ _ _ _ _ _ _ _ _ _ _, Ev.mono (ev_X12_price U lf B F A se R O V al dr _ _ _ _ _ k.ok) ?_⟩
  rintro v2 m1 ⟨F2, A2, R2, g1, g2, rfl, rfl⟩
  refine ⟨?_, sim_of k⟩
  rw [k.ok.e0, k.ok.e1, k.fe g1, k.ae g2, prc_cg (fun v _ => lvI_cg (k.pf g1) (k.nm g2) _ _ (nI v))]
theorem ag_bribes  : Agr isI MX11_bribes MX12_bribes [] := by
  intro c m hs
  obtain ⟨t0, t1, G, N, T, C, D, P, S, H0, H1, H2, H3, ta, lf, U, B, F, A, se, R, O, V, al, dr, rfl, rfl, k⟩ := hs
  refine ⟨_, ev_X11_bribes t0 t1 G N T C D P S H0 H1 H2 H3 ta lf k.hG k.hN k.ss.1, ?_⟩
  rintro v c1 ⟨rfl, D2, rfl⟩
  refine ⟨⟨_, rfl⟩, cw_of _ _ _ _ _ _ _ _ _ _ _ _ _ _ _, Ev.mono (ev_X12_bribes U lf B F A se R O V al dr _ _ _ _ _ k.ok k.vok) ?_⟩
  rintro v2 m1 ⟨F2, A2, R2, g1, g2, rfl, rfl⟩
  refine ⟨?_, sim_of k⟩
  rw [k.ok.e0, k.ok.e1, k.fe g1, k.ae g2, brb_cg (fun v _ => (seen_cg (fun j hj => (k.pf g1 j hj).symm) (fun i hi => (k.nm g2 i hi).symm) k.ss.2.2 _ _ (nI v)).symm)]
theorem ag_ask  : Agr isI MX11_ask MX12_ask [] := by
  intro c m hs
  obtain ⟨t0, t1, G, N, T, C, D, P, S, H0, H1, H2, H3, ta, lf, U, B, F, A, se, R, O, V, al, dr, rfl, rfl, k⟩ := hs
  refine ⟨_, ev_X11_ask t0 t1 G N T C D P S H0 H1 H2 H3 ta lf k.hG k.hN k.ss.1, ?_⟩
  rintro v c1 ⟨rfl, D2, ta2, rfl⟩
  refine ⟨⟨_, rfl⟩, cw_of _ _ _ _ _ _ _ _ _ _ _ _ _ _ _, Ev.mono (ev_X12_ask U lf B F A se R O V al dr _ _ _ _ _ k.ok k.vok) ?_⟩
  rintro v2 m1 ⟨F2, A2, R2, al2, g1, g2, rfl, rfl⟩
  refine ⟨?_, sim_of k⟩
  rw [k.ok.e0, k.ok.e1, k.fe g1, k.ae g2, ask_cg (fun f _ => mxE_congr (fun e _ => tl_cg (fun v _ => ⟨(seen_cg (fun j hj => (k.pf g1 j hj).symm) (fun i hi => (k.nm g2 i hi).symm) k.ss.2.2 _ _ (nI v)).symm, wF_cg (k.pf g1) (k.nm g2) _ _ (nI v) f N.1 (Nat.le_refl _)⟩)))]
theorem ag_count (x : Int32) : Agr isI MX11_count MX12_count [.int x] := by
  intro c m hs
  obtain ⟨t0, t1, G, N, T, C, D, P, S, H0, H1, H2, H3, ta, lf, U, B, F, A, se, R, O, V, al, dr, rfl, rfl, k⟩ := hs
  refine ⟨_, ev_X11_count t0 t1 G N T C D P S H0 H1 H2 H3 ta lf x k.hN.1 k.hG k.crs.len, ?_⟩
  rintro v c1 ⟨rfl, rfl⟩
  refine ⟨⟨_, rfl⟩, cw_of _ _ _ _ _ _ _ _ _ _ _ _ _ _ _, Ev.mono (ev_X12_count U lf B F A se R O V al dr _ _ _ _ _ k.ok x) ?_⟩
  rintro v2 m1 ⟨F2, A2, R2, g1, g2, rfl, rfl⟩
  refine ⟨?_, sim_of k⟩
  rw [k.crs.cnt k.hG, cnt_cg (t0 := t0) (t1 := t1) (T := T) (lf := lf) (u0 := T0M t0.1 B) (u1 := T1M t1.1 B) (S2 := SV V) rfl rfl (k.geq g1) (k.neq g2) k.ss.2.2.1]
  try rfl
theorem ag_rule (x : Int32) : Agr isI MX11_rule MX12_rule [.int x] := by
  intro c m hs
  obtain ⟨t0, t1, G, N, T, C, D, P, S, H0, H1, H2, H3, ta, lf, U, B, F, A, se, R, O, V, al, dr, rfl, rfl, k⟩ := hs
  refine ⟨_, ev_X11_rule t0 t1 G N T C D P S H0 H1 H2 H3 ta lf k.hG k.hN x, ?_⟩
  rintro v c1 (⟨q, rfl, rfl⟩ | ⟨q, rfl, D2, rfl⟩)
  · refine ⟨⟨_, rfl⟩, cw_of _ _ _ _ _ _ _ _ _ _ _ _ _ _ _, Ev.mono (ev_X12_rule U lf B F A se R O V al dr _ _ _ _ _ k.ok x) ?_⟩
    rintro v2 m1 ⟨F2, A2, R2, g1, g2, rfl, rfl⟩
    exact ⟨by rw [if_pos q], sim_of k⟩
  · refine ⟨⟨_, rfl⟩, cw_of _ _ _ _ _ _ _ _ _ _ _ _ _ _ _, Ev.mono (ev_X12_rule U lf B F A se R O V al dr _ _ _ _ _ k.ok x) ?_⟩
    rintro v2 m1 ⟨F2, A2, R2, g1, g2, rfl, rfl⟩
    refine ⟨?_, sim_of k⟩
    rw [if_neg q, k.ok.e0, k.ok.e2, k.fe g1, k.ae g2, show (fun k => lvI G.1 F2.2 (nmR A2.2) (nI T.1) (nI k) (nI T.2.2) N.1) = (fun k => lvI G.1 G.2.2 (nmR N.2.2) (nI T.1) (nI k) (nI T.2.2) N.1) from funext fun j => lvI_cg (k.pf g1) (k.nm g2) _ (nI j) _]
theorem ag_kinds (x : Int32) : Agr isI MX11_kinds MX12_kinds [.int x] := by
  intro c m hs
  obtain ⟨t0, t1, G, N, T, C, D, P, S, H0, H1, H2, H3, ta, lf, U, B, F, A, se, R, O, V, al, dr, rfl, rfl, k⟩ := hs
  have hG := k.hG
  by_cases q : x < 0 ∨ nI G.1 ≤ x
  · refine ⟨_, ev_kinds0 t0 t1 G N T C D P S H0 H1 H2 H3 ta lf x q, ?_⟩
    rintro v c1 ⟨rfl, rfl⟩
    refine ⟨⟨_, rfl⟩, cw_of _ _ _ _ _ _ _ _ _ _ _ _ _ _ _, Ev.mono (ev_X12_kinds U lf B F A se R O V al dr _ _ _ _ _ k.ok k.vok x) ?_⟩
    rintro v2 m1 ⟨F2, A2, R2, g1, g2, rfl, rfl⟩
    exact ⟨by rw [k.fe g1, if_pos q], sim_of k⟩
  · have hx := in_range (fun z => q (Or.inl z)) (fun z => q (Or.inr z)) (show G.1 < 2 ^ 31 by omega)
    have h1 := ev_kinds1 t0 t1 G N T C D P S H0 H1 H2 H3 ta lf k.hG k.hN k.ss.1 x.toNatClampNeg hx.2
    rw [← hx.1] at h1
    refine ⟨_, h1, ?_⟩
    rintro v c1 ⟨rfl, D2, rfl⟩
    refine ⟨⟨_, rfl⟩, cw_of _ _ _ _ _ _ _ _ _ _ _ _ _ _ _, Ev.mono (ev_X12_kinds U lf B F A se R O V al dr _ _ _ _ _ k.ok k.vok x) ?_⟩
    rintro v2 m1 ⟨F2, A2, R2, g1, g2, rfl, rfl⟩
    refine ⟨?_, sim_of k⟩
    rw [k.fe g1, if_neg q, k.ok.e0, k.ok.e1, k.ok.e2, k.ae g2, brb_cg (fun v _ => (seen_cg (upd_cg (fun j hj => (k.pf g1 j hj).symm) (nI v)) (fun i hi => (k.nm g2 i hi).symm) k.ss.2.2 _ _ _).symm)]
theorem ag_gaols (x z y : Int32) : Agr isI MX11_gaols MX12_gaols [.int x, .int z, .int y] := by
  intro c m hs
  obtain ⟨t0, t1, G, N, T, C, D, P, S, H0, H1, H2, H3, ta, lf, U, B, F, A, se, R, O, V, al, dr, rfl, rfl, k⟩ := hs
  refine ⟨_, ev_X11_gaols t0 t1 G N T C D P S H0 H1 H2 H3 ta lf k.hN.1 k.crs.len x z y, ?_⟩
  rintro v c1 (⟨q, rfl, rfl⟩ | ⟨q, rfl, rfl⟩)
  · refine ⟨⟨_, rfl⟩, cw_of _ _ _ _ _ _ _ _ _ _ _ _ _ _ _, Ev.mono (ev_X12_gaols U lf B F A se R O V al dr _ _ _ _ _ k.ok x z y) ?_⟩
    rintro v2 m1 ⟨F2, A2, R2, d2, g1, g2, rfl, rfl⟩
    exact ⟨by rw [if_pos q], sim_of k⟩
  · refine ⟨⟨_, rfl⟩, cw_of _ _ _ _ _ _ _ _ _ _ _ _ _ _ _, Ev.mono (ev_X12_gaols U lf B F A se R O V al dr _ _ _ _ _ k.ok x z y) ?_⟩
    rintro v2 m1 ⟨F2, A2, R2, d2, g1, g2, rfl, rfl⟩
    refine ⟨?_, sim_of k⟩
    have ed : decide (¬ (wst F2.1 F2.2 (nmR A2.2) (se 0) (se 1) (se 2) N.1).2 < se 1) = decide (¬ C.2.2.2.2.2.2.1 N.1 < C.2.1) := by
      have h1 := (k.wst g1 g2 N.1 (Nat.le_refl _)).2
      have h2 : se 1 = C.2.1 := k.ok.e1.trans k.crs.goal.symm
      apply decide_eq_decide.mpr
      rw [h1, h2]
    rw [if_neg q, k.ae g2, ed, gal_congr (fun t ht => ⟨k.cm g1 g2 t ht, k.sx g1 g2 t ht⟩) (fun t ht => k.wn g1 g2 t ht)]
theorem ag_order (x : Int32) : Agr isI MX11_order MX12_order [.int x] := by
  intro c m hs
  obtain ⟨t0, t1, G, N, T, C, D, P, S, H0, H1, H2, H3, ta, lf, U, B, F, A, se, R, O, V, al, dr, rfl, rfl, k⟩ := hs
  refine ⟨_, ev_X11_order t0 t1 G N T C D P S H0 H1 H2 H3 ta lf k.hG k.gok k.hT k.pin x, ?_⟩
  rintro v c1 (⟨q, rfl, rfl⟩ | ⟨q, P2, ln, v0, rfl, p1, p2, p3, p4, p5, p6, rfl⟩)
  · refine ⟨⟨_, rfl⟩, cw_of _ _ _ _ _ _ _ _ _ _ _ _ _ _ _, Ev.mono (ev_X12_order U lf B F A se R O V al dr _ _ _ _ _ k.ok k.tt.2.1 x) ?_⟩
    rintro v2 m1 ⟨F2, A2, R2, O2, g1, g2, rfl, (⟨-, rfl⟩ | ⟨q2, -⟩)⟩
    · exact ⟨rfl, sim_of k⟩
    · rw [lt8] at q2
      exact absurd q q2
  · refine ⟨⟨_, rfl⟩, cw_of _ _ _ _ _ _ _ _ _ _ _ _ _ _ _, Ev.mono (ev_X12_order U lf B F A se R O V al dr _ _ _ _ _ k.ok k.tt.2.1 x) ?_⟩
    rintro v2 m1 ⟨F2, A2, R2, O2, g1, g2, rfl, (⟨q2, -⟩ | ⟨-, l2, w0, ro2, r1, r2, rfl⟩)⟩
    · rw [lt8] at q2
      exact absurd q2 q
    · obtain ⟨e1, e2, e3⟩ := plan_one k.gok k.hG k.tt.1 p4 (plan_cg (k.pf g1) (show PlanOK G.1 F2.2 T.1 T.2.1 (nI T.2.2) l2 ro2 w0 from by rw [← k.fe g1, ← k.ok.e2]; exact r1))
      have hx : x = -1 ∨ ¬ x < 0 := by
        have h2 : ¬ x < -1 := fun z => q (Or.inl z)
        rw [Int32.lt_iff_toInt_lt, show ((-1 : Int32)).toInt = -1 from rfl] at h2
        by_cases z : x.toInt = -1
        · exact Or.inl (Int32.toInt_inj.mp (z.trans rfl))
        · refine Or.inr ?_
          rw [Int32.lt_iff_toInt_lt, show ((0 : Int32)).toInt = 0 from rfl]
          omega
      refine ⟨by rw [ord_one p6 hx e1 e3], sim_of ⟨k.c47, k.c12, k.gi, k.ni, k.tt, k.crs, Or.inr ⟨p1, ln, v0, p2, p3, p4, p5, p6⟩, k.ss, k.q0, k.q1, k.ok, k.s0, k.s1, k.s2, k.s3⟩⟩
theorem ag_best (y : Int32) : Agr isL MX11_best MX12_best [.int y] := by
  intro c m hs
  obtain ⟨t0, t1, G, N, T, C, D, P, S, H0, H1, H2, H3, ta, lf, U, B, F, A, se, R, O, V, al, dr, rfl, rfl, k⟩ := hs
  refine ⟨_, ev_X11_best t0 t1 G N T C D P S H0 H1 H2 H3 ta lf k.hG k.gok k.hT k.pin y, ?_⟩
  rintro v c1 (⟨q, rfl, rfl⟩ | ⟨q, P2, ln, v0, rfl, p1, p2, p3, p4, p5, p6, rfl⟩)
  · refine ⟨⟨_, rfl⟩, cw_of _ _ _ _ _ _ _ _ _ _ _ _ _ _ _, Ev.mono (ev_X12_best U lf B F A se R O V al dr _ _ _ _ _ k.ok k.tt.2.1 y) ?_⟩
    rintro v2 m1 ⟨F2, A2, R2, O2, g1, g2, rfl, (⟨-, rfl⟩ | ⟨q2, -⟩)⟩
    · exact ⟨rfl, sim_of k⟩
    · exact absurd q2 q
  · refine ⟨⟨_, rfl⟩, cw_of _ _ _ _ _ _ _ _ _ _ _ _ _ _ _, Ev.mono (ev_X12_best U lf B F A se R O V al dr _ _ _ _ _ k.ok k.tt.2.1 y) ?_⟩
    rintro v2 m1 ⟨F2, A2, R2, O2, g1, g2, rfl, (⟨q2, -⟩ | ⟨-, l2, w0, ro2, r1, r2, rfl⟩)⟩
    · exact absurd q q2
    · obtain ⟨e1, e2, e3⟩ := plan_one k.gok k.hG k.tt.1 p4 (plan_cg (k.pf g1) (show PlanOK G.1 F2.2 T.1 T.2.1 (nI T.2.2) l2 ro2 w0 from by rw [← k.fe g1, ← k.ok.e2]; exact r1))
      refine ⟨by rw [e2], sim_of ⟨k.c47, k.c12, k.gi, k.ni, k.tt, k.crs, Or.inr ⟨p1, ln, v0, p2, p3, p4, p5, p6⟩, k.ss, k.q0, k.q1, k.ok, k.s0, k.s1, k.s2, k.s3⟩⟩
theorem ag_digest : Agr isL MX11_digest MX12_digest [] := by
  intro c m hs
  obtain ⟨t0, t1, G, N, T, C, D, P, S, H0, H1, H2, H3, ta, lf, U, B, F, A, se, R, O, V, al, dr, rfl, rfl, k⟩ := hs
  refine ⟨_, ev_X11_digest t0 t1 G N T C D P S H0 H1 H2 H3 ta lf k.hG k.gok k.hN k.ss.1 k.hT k.crs k.pin, ?_⟩
  rintro v c1 ⟨ln, v0, row, p4, p6, p5, rfl, D2, P2, ta2, hp, rfl⟩
  refine ⟨⟨_, rfl⟩, cw_of _ _ _ _ _ _ _ _ _ _ _ _ _ _ _, Ev.mono (ev_X12_digest U lf B F A se R O V al dr _ _ _ _ _ k.ok k.tt.2.1 k.vok) ?_⟩
  rintro v2 m1 ⟨F2, A2, R2, O2, al2, dr2, l2, w0, ro2, g1, g2, rfl, r1, r2, r3, rfl⟩
  obtain ⟨e1, e2, e3⟩ := plan_one k.gok k.hG k.tt.1 p4 (plan_cg (k.pf g1) (show PlanOK G.1 F2.2 T.1 T.2.1 (nI T.2.2) l2 ro2 w0 from by rw [← k.fe g1]; exact r1))
  refine ⟨?_, sim_of ⟨k.c47, k.c12, k.gi, k.ni, k.tt, k.crs, hp, k.ss, k.q0, k.q1, k.ok, k.s0, k.s1, k.s2, k.s3⟩⟩
  rw [dgst_cg (t0 := t0) (t1 := t1) (T := T) (lf := lf) (u0 := T0M t0.1 B) (u1 := T1M t1.1 B) rfl rfl (k.geq g1) (k.neq g2) k.ss.2.2 k.hG (ord_one p6 (Or.inl rfl) e1 e3) (ord_one p6 (Or.inr (by decide)) e1 e3) e2]
  try rfl
