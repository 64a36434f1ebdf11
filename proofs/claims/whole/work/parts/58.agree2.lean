theorem core_t0 {t0 t1 : TX} {G N : TG} {T : TT} {C : TC} {P : TP} {S : TS} {H0 H1 H2 H3 : TH} {U : TU} {B : TB2} {se : AF} {V : TX} (k : Core t0 t1 G N T C P S H0 H1 H2 H3 U B se V) {u : TX} {G2 : TG} {C2 : TC} {B2 : TB2} (h47 : u.1 ≤ 47) (gi : GInv u G2) (cr : CrsT G2.1 G2.2.2 (nmR N.2.2) (nI T.1) (nI T.2.1) (nI T.2.2) N.1 C2) (hb : ∀ i, i < u.1 → u.2 i = B2.1 i) (hb1 : ∀ i, i < t1.1 → B2.1 (48 + i) = B.1 (48 + i)) (h0 : B2.2 0 = nI u.1) (h1 : B2.2 1 = B.2 1) : Core u t1 G2 N T C2 (pmk P 0) S H0 H1 H2 H3 U B2 se V :=
  ⟨h47, k.c12, gi, k.ni, k.tt, cr, Or.inl rfl, k.ss, ⟨rfl, hb⟩, ⟨rfl, fun i hi => (k.q1.2 i hi).trans (hb1 i hi).symm⟩, ⟨h47, k.c12, h0, h1.trans k.ok.hu, k.ok.h9, k.ok.h8, k.ok.hb, k.ok.e0, k.ok.e1, k.ok.e2⟩, k.s0, k.s1, k.s2, k.s3⟩
theorem core_t1 {t0 t1 : TX} {G N : TG} {T : TT} {C : TC} {P : TP} {S : TS} {H0 H1 H2 H3 : TH} {U : TU} {B : TB2} {se : AF} {V : TX} (k : Core t0 t1 G N T C P S H0 H1 H2 H3 U B se V) {u : TX} {N2 : TG} {C2 : TC} {B2 : TB2} (h12 : u.1 ≤ 12) (ni : NInv u N2) (cr : CrsT G.1 G.2.2 (nmR N2.2.2) (nI T.1) (nI T.2.1) (nI T.2.2) N2.1 C2) (hb : ∀ i, i < u.1 → u.2 i = B2.1 (48 + i)) (hb1 : ∀ i, i < t0.1 → B2.1 i = B.1 i) (h0 : B2.2 1 = nI u.1) (h1 : B2.2 0 = B.2 0) : Core t0 u G N2 T C2 (pmk P 0) S H0 H1 H2 H3 U B2 se V :=
  ⟨k.c47, h12, k.gi, ni, k.tt, cr, Or.inl rfl, k.ss, ⟨rfl, fun i hi => (k.q0.2 i hi).trans (hb1 i hi).symm⟩, ⟨rfl, hb⟩, ⟨k.c47, h12, h1.trans k.ok.ht, h0, k.ok.h9, k.ok.h8, k.ok.hb, k.ok.e0, k.ok.e1, k.ok.e2⟩, k.s0, k.s1, k.s2, k.s3⟩
theorem tq0 {t0 t1 : TX} {G N : TG} {T : TT} {C : TC} {P : TP} {S : TS} {H0 H1 H2 H3 : TH} {U : TU} {B : TB2} {se : AF} {V : TX} (k : Core t0 t1 G N T C P S H0 H1 H2 H3 U B se V) (i : Nat) (hi : i < t0.1) : t0.2 i = B.1 i := k.q0.2 i hi
theorem tq1 {t0 t1 : TX} {G N : TG} {T : TT} {C : TC} {P : TP} {S : TS} {H0 H1 H2 H3 : TH} {U : TU} {B : TB2} {se : AF} {V : TX} (k : Core t0 t1 G N T C P S H0 H1 H2 H3 U B se V) (i : Nat) (hi : i < t1.1) : t1.2 i = B.1 (48 + i) := k.q1.2 i hi
theorem nI_dec {n : Nat} (h : 0 < n) : nI n - 1 = nI (n - 1) := pk_sub (a := n) (b := 1) h
theorem ag_type (x b : Int32) : Agr isI MX11_type MX12_type [.int x, .int b] := by
  intro c m hs
  obtain ⟨t0, t1, G, N, T, C, D, P, S, H0, H1, H2, H3, ta, lf, U, B, F, A, se, R, O, V, al, dr, rfl, rfl, k⟩ := hs
  by_cases h0 : x = 0
  · subst h0
    refine ⟨_, ev_type0 t0 t1 G N T C D P S H0 H1 H2 H3 ta lf k.c47 k.c12 k.hG k.hN b, ?_⟩
    rintro v c1 (⟨q, rfl, rfl⟩ | ⟨q, hf, rfl, rfl⟩ | ⟨q, hf, rfl, G2, C2, rfl, gi, cr⟩)
    · refine ⟨⟨_, rfl⟩, cw_of _ _ _ _ _ _ _ _ _ _ _ _ _ _ _, Ev.mono (ev_mtype0 U lf B F A se R O V al dr t0.1 k.c47 k.ok.ht b) ?_⟩
      rintro v2 m1 (⟨q2, rfl, rfl⟩ | ⟨q2, h2, rfl, rfl⟩ | ⟨q2, h2, rfl, rfl⟩)
      · exact ⟨rfl, sim_of k⟩
      · exact absurd q q2
      · exact absurd q q2
    · refine ⟨⟨_, rfl⟩, cw_of _ _ _ _ _ _ _ _ _ _ _ _ _ _ _, Ev.mono (ev_mtype0 U lf B F A se R O V al dr t0.1 k.c47 k.ok.ht b) ?_⟩
      rintro v2 m1 (⟨q2, rfl, rfl⟩ | ⟨q2, h2, rfl, rfl⟩ | ⟨q2, h2, rfl, rfl⟩)
      · exact absurd q2 q
      · exact ⟨rfl, sim_of k⟩
      · exact absurd h2 (by omega)
    · refine ⟨⟨_, rfl⟩, cw_of _ _ _ _ _ _ _ _ _ _ _ _ _ _ _, Ev.mono (ev_mtype0 U lf B F A se R O V al dr t0.1 k.c47 k.ok.ht b) ?_⟩
      rintro v2 m1 (⟨q2, rfl, rfl⟩ | ⟨q2, h2, rfl, rfl⟩ | ⟨q2, h2, rfl, rfl⟩)
      · exact absurd q2 q
      · exact absurd hf (by omega)
      · refine ⟨rfl, sim_of (core_t0 k (by show t0.1 + 1 ≤ 47; omega) gi cr (fun i hi => ?_) (fun i hi => ?_) (show upd B.2 0 (nI (t0.1 + 1)) 0 = nI (t0.1 + 1) from pk_us) (show upd B.2 0 (nI (t0.1 + 1)) 1 = B.2 1 from pk_un (by decide)))⟩
        · show upd t0.2 t0.1 b i = upd B.1 (0 + t0.1) b (i)
          by_cases e : i = t0.1
          · subst e
            rw [pk_us, Nat.zero_add, pk_us]
          · have hi : i < t0.1 + 1 := hi
            rw [pk_un e, pk_un (by omega)]
            exact tq0 k i (by omega)
        · show upd B.1 (0 + t0.1) b (48 + i) = B.1 (48 + i)
          exact pk_un (by have := k.c47; have := k.c12; omega)
  · by_cases h1 : x = 1
    · subst h1
      refine ⟨_, ev_type1 t0 t1 G N T C D P S H0 H1 H2 H3 ta lf k.c47 k.c12 k.hG k.hN b, ?_⟩
      rintro v c1 (⟨q, rfl, rfl⟩ | ⟨q, hf, rfl, rfl⟩ | ⟨q, hf, rfl, G2, C2, rfl, gi, cr⟩)
      · refine ⟨⟨_, rfl⟩, cw_of _ _ _ _ _ _ _ _ _ _ _ _ _ _ _, Ev.mono (ev_mtype1 U lf B F A se R O V al dr t1.1 k.c12 k.ok.hu b) ?_⟩
        rintro v2 m1 (⟨q2, rfl, rfl⟩ | ⟨q2, h2, rfl, rfl⟩ | ⟨q2, h2, rfl, rfl⟩)
        · exact ⟨rfl, sim_of k⟩
        · exact absurd q q2
        · exact absurd q q2
      · refine ⟨⟨_, rfl⟩, cw_of _ _ _ _ _ _ _ _ _ _ _ _ _ _ _, Ev.mono (ev_mtype1 U lf B F A se R O V al dr t1.1 k.c12 k.ok.hu b) ?_⟩
        rintro v2 m1 (⟨q2, rfl, rfl⟩ | ⟨q2, h2, rfl, rfl⟩ | ⟨q2, h2, rfl, rfl⟩)
        · exact absurd q2 q
        · exact ⟨rfl, sim_of k⟩
        · exact absurd h2 (by omega)
      · refine ⟨⟨_, rfl⟩, cw_of _ _ _ _ _ _ _ _ _ _ _ _ _ _ _, Ev.mono (ev_mtype1 U lf B F A se R O V al dr t1.1 k.c12 k.ok.hu b) ?_⟩
        rintro v2 m1 (⟨q2, rfl, rfl⟩ | ⟨q2, h2, rfl, rfl⟩ | ⟨q2, h2, rfl, rfl⟩)
        · exact absurd q2 q
        · exact absurd hf (by omega)
        · refine ⟨rfl, sim_of (core_t1 k (by show t1.1 + 1 ≤ 12; omega) gi cr (fun i hi => ?_) (fun i hi => ?_) (show upd B.2 1 (nI (t1.1 + 1)) 1 = nI (t1.1 + 1) from pk_us) (show upd B.2 1 (nI (t1.1 + 1)) 0 = B.2 0 from pk_un (by decide)))⟩
          · show upd t1.2 t1.1 b i = upd B.1 (48 + t1.1) b (48 + i)
            by_cases e : i = t1.1
            · subst e
              rw [pk_us, pk_us]
            · have hi : i < t1.1 + 1 := hi
              rw [pk_un e, pk_un (by omega)]
              exact tq1 k i (by omega)
          · show upd B.1 (48 + t1.1) b (i) = B.1 (i)
            exact pk_un (by have := k.c47; have := k.c12; omega)
    · refine ⟨_, ev_type2 t0 t1 G N T C D P S H0 H1 H2 H3 ta lf x b (fun q => q.elim h0 h1), ?_⟩
      rintro v c1 ⟨rfl, rfl⟩
      refine ⟨⟨_, rfl⟩, cw_of _ _ _ _ _ _ _ _ _ _ _ _ _ _ _, Ev.mono (ev_mtype_bad U lf B F A se R O V al dr x b ((two_iff x).mpr (fun q => q.elim h0 h1))) ?_⟩
      rintro v2 m1 ⟨rfl, rfl⟩
      exact ⟨rfl, sim_of k⟩
theorem ag_wipe (x : Int32) : Agr isI MX11_wipe MX12_wipe [.int x] := by
  intro c m hs
  obtain ⟨t0, t1, G, N, T, C, D, P, S, H0, H1, H2, H3, ta, lf, U, B, F, A, se, R, O, V, al, dr, rfl, rfl, k⟩ := hs
  by_cases h0 : x = 0
  · subst h0
    refine ⟨_, ev_wipe0 t0 t1 G N T C D P S H0 H1 H2 H3 ta lf k.c47 k.c12 k.hG k.hN, ?_⟩
    rintro v c1 ⟨rfl, G2, C2, rfl, gi, cr⟩
    refine ⟨⟨_, rfl⟩, cw_of _ _ _ _ _ _ _ _ _ _ _ _ _ _ _, Ev.mono (ev_mwipe0 U lf B F A se R O V al dr) ?_⟩
    rintro v2 m1 ⟨rfl, rfl⟩
    exact ⟨by rw [k.ok.ht], sim_of (core_t0 k (Nat.zero_le _) gi cr (fun i hi => absurd hi (Nat.not_lt_zero i)) (fun i hi => rfl) (show upd B.2 0 0 0 = 0 from pk_us) (show upd B.2 0 0 1 = B.2 1 from pk_un (by decide)))⟩
  · by_cases h1 : x = 1
    · subst h1
      refine ⟨_, ev_wipe1 t0 t1 G N T C D P S H0 H1 H2 H3 ta lf k.c47 k.c12 k.hG k.hN, ?_⟩
      rintro v c1 ⟨rfl, G2, C2, rfl, gi, cr⟩
      refine ⟨⟨_, rfl⟩, cw_of _ _ _ _ _ _ _ _ _ _ _ _ _ _ _, Ev.mono (ev_mwipe1 U lf B F A se R O V al dr) ?_⟩
      rintro v2 m1 ⟨rfl, rfl⟩
      exact ⟨by rw [k.ok.hu], sim_of (core_t1 k (Nat.zero_le _) gi cr (fun i hi => absurd hi (Nat.not_lt_zero i)) (fun i hi => rfl) (show upd B.2 1 0 1 = 0 from pk_us) (show upd B.2 1 0 0 = B.2 0 from pk_un (by decide)))⟩
    · refine ⟨_, ev_wipe2 t0 t1 G N T C D P S H0 H1 H2 H3 ta lf x (fun q => q.elim h0 h1), ?_⟩
      rintro v c1 ⟨rfl, rfl⟩
      refine ⟨⟨_, rfl⟩, cw_of _ _ _ _ _ _ _ _ _ _ _ _ _ _ _, Ev.mono (ev_mwipe_bad U lf B F A se R O V al dr x ((two_iff x).mpr (fun q => q.elim h0 h1))) ?_⟩
      rintro v2 m1 ⟨rfl, rfl⟩
      exact ⟨rfl, sim_of k⟩
theorem ag_undo (x : Int32) : Agr isI MX11_undo MX12_undo [.int x] := by
  intro c m hs
  obtain ⟨t0, t1, G, N, T, C, D, P, S, H0, H1, H2, H3, ta, lf, U, B, F, A, se, R, O, V, al, dr, rfl, rfl, k⟩ := hs
  by_cases h0 : x = 0
  · subst h0
    have hle := k.c47
    refine ⟨_, ev_undo0 t0 t1 G N T C D P S H0 H1 H2 H3 ta lf k.c47 k.c12 k.hG k.hN, ?_⟩
    rintro v c1 (⟨q, rfl, rfl⟩ | ⟨q, rfl, G2, C2, rfl, gi, cr⟩)
    · refine ⟨⟨_, rfl⟩, cw_of _ _ _ _ _ _ _ _ _ _ _ _ _ _ _, Ev.mono (ev_mundo0 U lf B F A se R O V al dr) ?_⟩
      rintro v2 m1 (⟨q2, rfl, rfl⟩ | ⟨q2, rfl, rfl⟩)
      · exact ⟨rfl, sim_of k⟩
      · exact absurd (by rw [k.ok.ht, q]; rfl) q2
    · refine ⟨⟨_, rfl⟩, cw_of _ _ _ _ _ _ _ _ _ _ _ _ _ _ _, Ev.mono (ev_mundo0 U lf B F A se R O V al dr) ?_⟩
      rintro v2 m1 (⟨q2, rfl, rfl⟩ | ⟨q2, rfl, rfl⟩)
      · rw [k.ok.ht] at q2
        exact absurd (nI_z (by omega) q2) (by omega)
      · have e : B.2 0 - 1 = nI (t0.1 - 1) := by rw [k.ok.ht, nI_dec q]
        exact ⟨by rw [e], sim_of (core_t0 k (by show t0.1 - 1 ≤ 47; omega) gi cr (fun i hi => tq0 k i (by have hi : i < t0.1 - 1 := hi; omega)) (fun i hi => rfl) (show upd B.2 0 (B.2 0 - 1) 0 = nI (t0.1 - 1) from pk_us.trans e) (show upd B.2 0 (B.2 0 - 1) 1 = B.2 1 from pk_un (by decide)))⟩
  · by_cases h1 : x = 1
    · subst h1
      have hle := k.c12
      refine ⟨_, ev_undo1 t0 t1 G N T C D P S H0 H1 H2 H3 ta lf k.c47 k.c12 k.hG k.hN, ?_⟩
      rintro v c1 (⟨q, rfl, rfl⟩ | ⟨q, rfl, G2, C2, rfl, gi, cr⟩)
      · refine ⟨⟨_, rfl⟩, cw_of _ _ _ _ _ _ _ _ _ _ _ _ _ _ _, Ev.mono (ev_mundo1 U lf B F A se R O V al dr) ?_⟩
        rintro v2 m1 (⟨q2, rfl, rfl⟩ | ⟨q2, rfl, rfl⟩)
        · exact ⟨rfl, sim_of k⟩
        · exact absurd (by rw [k.ok.hu, q]; rfl) q2
      · refine ⟨⟨_, rfl⟩, cw_of _ _ _ _ _ _ _ _ _ _ _ _ _ _ _, Ev.mono (ev_mundo1 U lf B F A se R O V al dr) ?_⟩
        rintro v2 m1 (⟨q2, rfl, rfl⟩ | ⟨q2, rfl, rfl⟩)
        · rw [k.ok.hu] at q2
          exact absurd (nI_z (by omega) q2) (by omega)
        · have e : B.2 1 - 1 = nI (t1.1 - 1) := by rw [k.ok.hu, nI_dec q]
          exact ⟨by rw [e], sim_of (core_t1 k (by show t1.1 - 1 ≤ 12; omega) gi cr (fun i hi => tq1 k i (by have hi : i < t1.1 - 1 := hi; omega)) (fun i hi => rfl) (show upd B.2 1 (B.2 1 - 1) 1 = nI (t1.1 - 1) from pk_us.trans e) (show upd B.2 1 (B.2 1 - 1) 0 = B.2 0 from pk_un (by decide)))⟩
    · refine ⟨_, ev_undo2 t0 t1 G N T C D P S H0 H1 H2 H3 ta lf x (fun q => q.elim h0 h1), ?_⟩
      rintro v c1 ⟨rfl, rfl⟩
      refine ⟨⟨_, rfl⟩, cw_of _ _ _ _ _ _ _ _ _ _ _ _ _ _ _, Ev.mono (ev_mundo_bad U lf B F A se R O V al dr x ((two_iff x).mpr (fun q => q.elim h0 h1))) ?_⟩
      rintro v2 m1 ⟨rfl, rfl⟩
      exact ⟨rfl, sim_of k⟩
theorem rng9 {x : Int32} {b : Nat} (hb : b + 1 < 2 ^ 31) (h : ¬ (x < 0 ∨ nI b < x)) : x = nI x.toNatClampNeg ∧ x.toNatClampNeg ≤ b := by
  have h1 := in_range (x := x) (n := b + 1) (fun q => h (Or.inl q)) (fun q => h (Or.inr (lt_succ hb q))) hb
  exact ⟨h1.1, by omega⟩
theorem ag_set (x u : Int32) : Agr isI MX11_set MX12_set [.int x, .int u] := by
  intro c m hs
  obtain ⟨t0, t1, G, N, T, C, D, P, S, H0, H1, H2, H3, ta, lf, U, B, F, A, se, R, O, V, al, dr, rfl, rfl, k⟩ := hs
  refine ⟨_, ev_X11_set t0 t1 G N T C D P S H0 H1 H2 H3 ta lf k.hG k.hN x u, ?_⟩
  rintro v c1 (⟨q, rfl, rfl⟩ | ⟨q, rfl, C2, rfl, cr⟩)
  · refine ⟨⟨_, rfl⟩, cw_of _ _ _ _ _ _ _ _ _ _ _ _ _ _ _, Ev.mono (ev_X12_set U lf B F A se R O V al dr x u) ?_⟩
    rintro v2 m1 (⟨q2, rfl, rfl⟩ | ⟨q2, rfl, rfl⟩)
    · exact ⟨rfl, sim_of k⟩
    · rw [or_assoc] at q2
      exact absurd q q2
  · refine ⟨⟨_, rfl⟩, cw_of _ _ _ _ _ _ _ _ _ _ _ _ _ _ _, Ev.mono (ev_X12_set U lf B F A se R O V al dr x u) ?_⟩
    rintro v2 m1 (⟨q2, rfl, rfl⟩ | ⟨-, rfl, rfl⟩)
    · rw [or_assoc] at q2
      exact absurd q2 q
    · unfold setB at q
      obtain ⟨hx1, hx2⟩ := rng9 (x := x) (b := 2) (by decide) (fun z => q (z.elim Or.inl (fun z => Or.inr (Or.inl z))))
      have q3 : ¬ (if x = 1 then u < 1 ∨ 8 < u else u < 0 ∨ 9 < u) := fun z => q (Or.inr (Or.inr z))
      have ok := k.ok
      have tt := k.tt
      generalize x.toNatClampNeg = xn at *
      subst hx1
      match xn, hx2 with
      | 0, _ =>
        rw [if_neg (by decide)] at q3
        obtain ⟨hu1, hu2⟩ := rng9 (b := 9) (by decide) q3
        have eT : setT T (nI 0) u = (u.toNatClampNeg, T.2.1, T.2.2) := if_pos rfl
        rw [eT] at cr ⊢
        exact ⟨by rw [ok.e0]; rfl, sim_of ⟨k.c47, k.c12, k.gi, k.ni, ⟨hu2, tt.2.1, tt.2.2.1, tt.2.2.2⟩, cr, Or.inl rfl, k.ss, k.q0, k.q1, ⟨k.c47, k.c12, ok.ht, ok.hu, hu2, ok.h8, ok.hb, pk_us.trans hu1, (pk_un (by decide)).trans ok.e1, (pk_un (by decide)).trans ok.e2⟩, k.s0, k.s1, k.s2, k.s3⟩⟩
      | 1, _ =>
        rw [if_pos (by decide)] at q3
        obtain ⟨hu1, hu2⟩ := rng9 (x := u) (b := 8) (by decide) (fun z => q3 (z.elim (fun z => Or.inl (lt_one z)) Or.inr))
        have hu3 : 1 ≤ u.toNatClampNeg := Nat.pos_of_ne_zero fun z => q3 (Or.inl (by rw [hu1, z]; decide))
        have eT : setT T (nI 1) u = (T.1, u.toNatClampNeg, T.2.2) := (if_neg (by decide)).trans (if_pos rfl)
        rw [eT] at cr ⊢
        exact ⟨by rw [ok.e1]; rfl, sim_of ⟨k.c47, k.c12, k.gi, k.ni, ⟨tt.1, hu3, hu2, tt.2.2.2⟩, cr, Or.inl rfl, k.ss, k.q0, k.q1, ⟨k.c47, k.c12, ok.ht, ok.hu, ok.h9, hu2, ok.hb, (pk_un (by decide)).trans ok.e0, pk_us.trans hu1, (pk_un (by decide)).trans ok.e2⟩, k.s0, k.s1, k.s2, k.s3⟩⟩
      | 2, _ =>
        rw [if_neg (by decide)] at q3
        obtain ⟨hu1, hu2⟩ := rng9 (b := 9) (by decide) q3
        have eT : setT T (nI 2) u = (T.1, T.2.1, u.toNatClampNeg) := (if_neg (by decide)).trans (if_neg (by decide))
        rw [eT] at cr ⊢
        exact ⟨by rw [ok.e2]; rfl, sim_of ⟨k.c47, k.c12, k.gi, k.ni, ⟨tt.1, tt.2.1, tt.2.2.1, hu2⟩, cr, Or.inl rfl, k.ss, k.q0, k.q1, ⟨k.c47, k.c12, ok.ht, ok.hu, ok.h9, ok.h8, hu2, (pk_un (by decide)).trans ok.e0, (pk_un (by decide)).trans ok.e1, pk_us.trans hu1⟩, k.s0, k.s1, k.s2, k.s3⟩⟩
      | xn + 3, h => exact absurd h (by omega)
theorem seq_add {S S2 : TS} (h : SEq S S2) (x y : Int32) : SEq (S.1 + 1, upd S.2.1 S.1 x, upd S.2.2 S.1 y) (S2.1 + 1, upd S2.2.1 S2.1 x, upd S2.2.2 S2.1 y) := by
  obtain ⟨h1, h2⟩ := h
  refine ⟨by rw [h1], fun j hj => ?_⟩
  show upd S.2.1 S.1 x j = upd S2.2.1 S2.1 x j ∧ upd S.2.2 S.1 y j = upd S2.2.2 S2.1 y j
  rw [← h1]
  by_cases e : j = S.1
  · subst e
    exact ⟨by rw [pk_us, pk_us], by rw [pk_us, pk_us]⟩
  · have hj : j < S.1 + 1 := hj
    rw [pk_un e, pk_un e, pk_un e, pk_un e]
    exact h2 j (by omega)
theorem sj_add {S : TS} {x : Int32} {y : Int32} (h : ∀ k, k < S.1 → ∃ j, j < 8 ∧ S.2.1 k = nI j) (h0 : ¬ x < 0) (h8 : ¬ 8 ≤ x) : ∀ k, k < (S.1 + 1, upd S.2.1 S.1 x, upd S.2.2 S.1 y).1 → ∃ j, j < 8 ∧ (S.1 + 1, upd S.2.1 S.1 x, upd S.2.2 S.1 y).2.1 k = nI j := by
  intro t ht
  show ∃ j, j < 8 ∧ upd S.2.1 S.1 x t = nI j
  have ht : t < S.1 + 1 := ht
  by_cases e : t = S.1
  · subst e
    have := in_range (x := x) (n := 8) h0 h8 (by decide)
    exact ⟨_, this.2, by rw [pk_us]; exact this.1⟩
  · rw [pk_un e]
    exact h t (by omega)
theorem ag_seen (x y : Int32) : Agr isI MX11_seen MX12_seen [.int x, .int y] := by
  intro c m hs
  obtain ⟨t0, t1, G, N, T, C, D, P, S, H0, H1, H2, H3, ta, lf, U, B, F, A, se, R, O, V, al, dr, rfl, rfl, k⟩ := hs
  have hv : V.1 ≤ 8 := k.vok.1
  have hsv := k.sv
  refine ⟨_, ev_X11_seen t0 t1 G N T C D P S H0 H1 H2 H3 ta lf x y k.ss.1, ?_⟩
  rintro v c1 (⟨q, rfl, rfl⟩ | ⟨q, h8, rfl, rfl⟩ | ⟨q, h8, rfl, rfl⟩)
  · refine ⟨⟨_, rfl⟩, cw_of _ _ _ _ _ _ _ _ _ _ _ _ _ _ _, Ev.mono (ev_X12_seen U lf B F A se R O V al dr hv x y) ?_⟩
    intro v2 m1 h
    rw [bad_iff] at h
    rcases h with ⟨q2, rfl, rfl⟩ | ⟨q2, h2, rfl, rfl⟩ | ⟨q2, h2, rfl, rfl⟩
    · exact ⟨rfl, sim_of k⟩
    · exact absurd q q2
    · exact absurd q q2
  · refine ⟨⟨_, rfl⟩, cw_of _ _ _ _ _ _ _ _ _ _ _ _ _ _ _, Ev.mono (ev_X12_seen U lf B F A se R O V al dr hv x y) ?_⟩
    intro v2 m1 h
    rw [bad_iff] at h
    rcases h with ⟨q2, rfl, rfl⟩ | ⟨q2, h2, rfl, rfl⟩ | ⟨q2, h2, rfl, rfl⟩
    · exact absurd q2 q
    · exact ⟨rfl, sim_of k⟩
    · exact absurd h2 (by omega)
  · refine ⟨⟨_, rfl⟩, cw_of _ _ _ _ _ _ _ _ _ _ _ _ _ _ _, Ev.mono (ev_X12_seen U lf B F A se R O V al dr hv x y) ?_⟩
    intro v2 m1 h
    rw [bad_iff] at h
    rcases h with ⟨q2, rfl, rfl⟩ | ⟨q2, h2, rfl, rfl⟩ | ⟨q2, h2, rfl, rfl⟩
    · exact absurd q2 q
    · exact absurd h2 (by omega)
    · refine ⟨by rw [hsv], sim_of ⟨k.c47, k.c12, k.gi, k.ni, k.tt, k.crs, k.pin, ?_, k.q0, k.q1, k.ok, k.s0, k.s1, k.s2, k.s3⟩⟩
      refine ⟨by show S.1 + 1 ≤ 8; omega, sj_add k.ss.2.1 (fun z => q (Or.inl z)) (fun z => q (Or.inr (Or.inl z))), ?_⟩
      rw [SV_add]
      exact seq_add k.ss.2.2 x y
theorem ag_forget : Agr isI MX11_forget MX12_forget [] := by
  intro c m hs
  obtain ⟨t0, t1, G, N, T, C, D, P, S, H0, H1, H2, H3, ta, lf, U, B, F, A, se, R, O, V, al, dr, rfl, rfl, k⟩ := hs
  refine ⟨_, ev_X11_forget t0 t1 G N T C D P S H0 H1 H2 H3 ta lf, ?_⟩
  rintro v c1 ⟨rfl, rfl⟩
  refine ⟨⟨_, rfl⟩, cw_of _ _ _ _ _ _ _ _ _ _ _ _ _ _ _, Ev.mono (ev_X12_forget U lf B F A se R O V al dr) ?_⟩
  rintro v2 m1 ⟨rfl, rfl⟩
  exact ⟨by rw [k.sv], sim_of ⟨k.c47, k.c12, k.gi, k.ni, k.tt, k.crs, k.pin, ⟨Nat.zero_le _, fun j hj => absurd hj (Nat.not_lt_zero j), rfl, fun j hj => absurd hj (Nat.not_lt_zero j)⟩, k.q0, k.q1, k.ok, k.s0, k.s1, k.s2, k.s3⟩⟩
