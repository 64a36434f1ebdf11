theorem cp_rng {i n : Int32} {z : Nat} (hz : z ≤ 60) (h : ¬ (i < 0 ∨ n < 0 ∨ nI z < i ∨ nI z - i < n)) : i.toNatClampNeg + n.toNatClampNeg ≤ z := by
  obtain ⟨a, ha, ha2⟩ := str_in hz h
  obtain ⟨b, hb, hb2⟩ := str_in2 hz h
  subst ha hb
  rw [nI_clamp (by omega), nI_clamp (by omega)]
  exact Nat.le_of_not_lt fun q => h (str_out hz ha2 hb2 q)
theorem HEq2.copy {U : TU} {s t : Nat} {H K : TH} {it2 mv2 : AF} {a b n : Nat} (hs : HEq2 U s H) (ht : HEq2 U t K) (h0 : H.1 = 0) (k0 : K.1 = 0) (h1 : a + n ≤ H.2.2.1) (h2 : b + n ≤ K.2.2.1) (hi : ∀ k, it2 k = if 60 * t + b ≤ k ∧ k < 60 * t + b + n then U.2.2.1 (60 * s + a + (k - (60 * t + b))) else U.2.2.1 k) : HEq2 (U.1, U.2.1, it2, mv2) t (K.1, K.2.1, K.2.2.1, va_cpy H.2.2.2 K.2.2.2 a b n) := by
  refine ⟨ht.1, ht.2.1, Or.inr ⟨k0, fun q => (ht.lost.mpr q) k0, ht.form k0, fun i hi2 => ?_⟩⟩
  have hi2 : i < K.2.2.1 := hi2
  show it2 (60 * t + i) = va_cpy H.2.2.2 K.2.2.2 a b n i
  rw [hi]
  unfold va_cpy
  by_cases q : b ≤ i ∧ i < b + n
  · rw [if_pos (by omega), if_pos q, show 60 * s + a + (60 * t + i - (60 * t + b)) = 60 * s + (a + (i - b)) by omega]
    exact hs.item h0 _ (by omega)
  · rw [if_neg (by omega), if_neg q]
    exact ht.item k0 i hi2
theorem lost_iff {U : TU} {s t : Nat} {H K : TH} (hs : HEq2 U s H) (ht : HEq2 U t K) : (U.1 s < 0 ∨ U.1 t < 0) ↔ (¬ H.1 = 0 ∨ ¬ K.1 = 0) := or_congr hs.lost.symm ht.lost.symm
theorem form_iff {U : TU} {s t : Nat} {H K : TH} (hs : HEq2 U s H) (ht : HEq2 U t K) (q : ¬ (¬ H.1 = 0 ∨ ¬ K.1 = 0)) : U.1 s = U.1 t ↔ H.2.1 = K.2.1 := by
  rw [hs.form (Decidable.of_not_not fun z => q (Or.inl z)), ht.form (Decidable.of_not_not fun z => q (Or.inr z))]
theorem ag_copy00 (i j n : Int32) : Agr isI MX11_copy MX12_copy [.int (nI 0), .int i, .int (nI 0), .int j, .int n] := by
  intro c m hs
  obtain ⟨t0, t1, G, N, T, C, D, P, S, H0, H1, H2, H3, ta, lf, U, B, F, A, se, R, O, V, al, dr, rfl, rfl, k⟩ := hs
  refine ⟨_, ev_copy00 t0 t1 G N T C D P S H0 H1 H2 H3 ta lf i j n k.s0.z k.s0.z, ?_⟩
  rintro v c1 (⟨q, rfl, rfl⟩ | ⟨q, e, rfl, rfl⟩ | ⟨q, e, b, rfl, rfl⟩ | ⟨q, e, b, rfl, rfl⟩)
  · refine ⟨⟨_, rfl⟩, cw_of _ _ _ _ _ _ _ _ _ _ _ _ _ _ _, Ev.mono (ev_X12_copy U lf B F A se R O V al dr 0 0 (by decide) (by decide) H0.2.2.1 H0.2.2.1 k.s0.z k.s0.z k.s0.sz k.s0.sz i j n) ?_⟩
    intro v2 m1 h
    rw [lost_iff k.s0 k.s0] at h
    rcases h with ⟨q2, rfl, rfl⟩ | ⟨q2, e2, rfl, rfl⟩ | ⟨q2, e2, b2, rfl, rfl⟩ | ⟨q2, e2, b2, rfl, it2, mv2, rfl, hit⟩
    · exact ⟨rfl, sim_of k⟩
    · exact absurd q q2
    · exact absurd q q2
    · exact absurd q q2
  · refine ⟨⟨_, rfl⟩, cw_of _ _ _ _ _ _ _ _ _ _ _ _ _ _ _, Ev.mono (ev_X12_copy U lf B F A se R O V al dr 0 0 (by decide) (by decide) H0.2.2.1 H0.2.2.1 k.s0.z k.s0.z k.s0.sz k.s0.sz i j n) ?_⟩
    intro v2 m1 h
    rw [lost_iff k.s0 k.s0] at h
    rcases h with ⟨q2, rfl, rfl⟩ | ⟨q2, e2, rfl, rfl⟩ | ⟨q2, e2, b2, rfl, rfl⟩ | ⟨q2, e2, b2, rfl, it2, mv2, rfl, hit⟩
    · exact absurd q2 q
    · exact ⟨rfl, sim_of k⟩
    · exact absurd ((form_iff k.s0 k.s0 q).mp e2) e
    · exact absurd ((form_iff k.s0 k.s0 q).mp e2) e
  · refine ⟨⟨_, rfl⟩, cw_of _ _ _ _ _ _ _ _ _ _ _ _ _ _ _, Ev.mono (ev_X12_copy U lf B F A se R O V al dr 0 0 (by decide) (by decide) H0.2.2.1 H0.2.2.1 k.s0.z k.s0.z k.s0.sz k.s0.sz i j n) ?_⟩
    intro v2 m1 h
    rw [lost_iff k.s0 k.s0] at h
    rcases h with ⟨q2, rfl, rfl⟩ | ⟨q2, e2, rfl, rfl⟩ | ⟨q2, e2, b2, rfl, rfl⟩ | ⟨q2, e2, b2, rfl, it2, mv2, rfl, hit⟩
    · exact absurd q2 q
    · exact absurd ((form_iff k.s0 k.s0 q).mpr e) e2
    · exact ⟨rfl, sim_of k⟩
    · exact absurd b b2
  · refine ⟨⟨_, rfl⟩, cw_of _ _ _ _ _ _ _ _ _ _ _ _ _ _ _, Ev.mono (ev_X12_copy U lf B F A se R O V al dr 0 0 (by decide) (by decide) H0.2.2.1 H0.2.2.1 k.s0.z k.s0.z k.s0.sz k.s0.sz i j n) ?_⟩
    intro v2 m1 h
    rw [lost_iff k.s0 k.s0] at h
    rcases h with ⟨q2, rfl, rfl⟩ | ⟨q2, e2, rfl, rfl⟩ | ⟨q2, e2, b2, rfl, rfl⟩ | ⟨q2, e2, b2, rfl, it2, mv2, rfl, hit⟩
    · exact absurd q2 q
    · exact absurd ((form_iff k.s0 k.s0 q).mpr e) e2
    · exact absurd b2 b
    · have z1 : H0.1 = 0 := Decidable.of_not_not fun z => q (Or.inl z)
      have z2 : H0.1 = 0 := Decidable.of_not_not fun z => q (Or.inr z)
      have hz1 := k.s0.z
      have hz2 := k.s0.z
      have r1 := cp_rng k.s0.z (fun z => b (Or.inl z))
      have r2 := cp_rng k.s0.z (fun z => b (Or.inr z))
      exact ⟨rfl, sim_of ⟨k.c47, k.c12, k.gi, k.ni, k.tt, k.crs, k.pin, k.ss, k.q0, k.q1, k.ok, HEq2.copy k.s0 k.s0 z1 z2 r1 r2 hit, k.s1.keep rfl rfl (fun m hm => (show it2 (60 * 1 + m) = U.2.2.1 (60 * 1 + m) by rw [hit, if_neg (by omega)])), k.s2.keep rfl rfl (fun m hm => (show it2 (60 * 2 + m) = U.2.2.1 (60 * 2 + m) by rw [hit, if_neg (by omega)])), k.s3.keep rfl rfl (fun m hm => (show it2 (60 * 3 + m) = U.2.2.1 (60 * 3 + m) by rw [hit, if_neg (by omega)]))⟩⟩
theorem ag_copy01 (i j n : Int32) : Agr isI MX11_copy MX12_copy [.int (nI 0), .int i, .int (nI 1), .int j, .int n] := by
  intro c m hs
  obtain ⟨t0, t1, G, N, T, C, D, P, S, H0, H1, H2, H3, ta, lf, U, B, F, A, se, R, O, V, al, dr, rfl, rfl, k⟩ := hs
  refine ⟨_, ev_copy01 t0 t1 G N T C D P S H0 H1 H2 H3 ta lf i j n k.s0.z k.s1.z, ?_⟩
  rintro v c1 (⟨q, rfl, rfl⟩ | ⟨q, e, rfl, rfl⟩ | ⟨q, e, b, rfl, rfl⟩ | ⟨q, e, b, rfl, rfl⟩)
  · refine ⟨⟨_, rfl⟩, cw_of _ _ _ _ _ _ _ _ _ _ _ _ _ _ _, Ev.mono (ev_X12_copy U lf B F A se R O V al dr 0 1 (by decide) (by decide) H0.2.2.1 H1.2.2.1 k.s0.z k.s1.z k.s0.sz k.s1.sz i j n) ?_⟩
    intro v2 m1 h
    rw [lost_iff k.s0 k.s1] at h
    rcases h with ⟨q2, rfl, rfl⟩ | ⟨q2, e2, rfl, rfl⟩ | ⟨q2, e2, b2, rfl, rfl⟩ | ⟨q2, e2, b2, rfl, it2, mv2, rfl, hit⟩
    · exact ⟨rfl, sim_of k⟩
    · exact absurd q q2
    · exact absurd q q2
    · exact absurd q q2
  · refine ⟨⟨_, rfl⟩, cw_of _ _ _ _ _ _ _ _ _ _ _ _ _ _ _, Ev.mono (ev_X12_copy U lf B F A se R O V al dr 0 1 (by decide) (by decide) H0.2.2.1 H1.2.2.1 k.s0.z k.s1.z k.s0.sz k.s1.sz i j n) ?_⟩
    intro v2 m1 h
    rw [lost_iff k.s0 k.s1] at h
    rcases h with ⟨q2, rfl, rfl⟩ | ⟨q2, e2, rfl, rfl⟩ | ⟨q2, e2, b2, rfl, rfl⟩ | ⟨q2, e2, b2, rfl, it2, mv2, rfl, hit⟩
    · exact absurd q2 q
    · exact ⟨rfl, sim_of k⟩
    · exact absurd ((form_iff k.s0 k.s1 q).mp e2) e
    · exact absurd ((form_iff k.s0 k.s1 q).mp e2) e
  · refine ⟨⟨_, rfl⟩, cw_of _ _ _ _ _ _ _ _ _ _ _ _ _ _ _, Ev.mono (ev_X12_copy U lf B F A se R O V al dr 0 1 (by decide) (by decide) H0.2.2.1 H1.2.2.1 k.s0.z k.s1.z k.s0.sz k.s1.sz i j n) ?_⟩
    intro v2 m1 h
    rw [lost_iff k.s0 k.s1] at h
    rcases h with ⟨q2, rfl, rfl⟩ | ⟨q2, e2, rfl, rfl⟩ | ⟨q2, e2, b2, rfl, rfl⟩ | ⟨q2, e2, b2, rfl, it2, mv2, rfl, hit⟩
    · exact absurd q2 q
    · exact absurd ((form_iff k.s0 k.s1 q).mpr e) e2
    · exact ⟨rfl, sim_of k⟩
    · exact absurd b b2
  · refine ⟨⟨_, rfl⟩, cw_of _ _ _ _ _ _ _ _ _ _ _ _ _ _ _, Ev.mono (ev_X12_copy U lf B F A se R O V al dr 0 1 (by decide) (by decide) H0.2.2.1 H1.2.2.1 k.s0.z k.s1.z k.s0.sz k.s1.sz i j n) ?_⟩
    intro v2 m1 h
    rw [lost_iff k.s0 k.s1] at h
    rcases h with ⟨q2, rfl, rfl⟩ | ⟨q2, e2, rfl, rfl⟩ | ⟨q2, e2, b2, rfl, rfl⟩ | ⟨q2, e2, b2, rfl, it2, mv2, rfl, hit⟩
    · exact absurd q2 q
    · exact absurd ((form_iff k.s0 k.s1 q).mpr e) e2
    · exact absurd b2 b
    · have z1 : H0.1 = 0 := Decidable.of_not_not fun z => q (Or.inl z)
      have z2 : H1.1 = 0 := Decidable.of_not_not fun z => q (Or.inr z)
      have hz1 := k.s0.z
      have hz2 := k.s1.z
      have r1 := cp_rng k.s0.z (fun z => b (Or.inl z))
      have r2 := cp_rng k.s1.z (fun z => b (Or.inr z))
      exact ⟨rfl, sim_of ⟨k.c47, k.c12, k.gi, k.ni, k.tt, k.crs, k.pin, k.ss, k.q0, k.q1, k.ok, k.s0.keep rfl rfl (fun m hm => (show it2 (60 * 0 + m) = U.2.2.1 (60 * 0 + m) by rw [hit, if_neg (by omega)])), HEq2.copy k.s0 k.s1 z1 z2 r1 r2 hit, k.s2.keep rfl rfl (fun m hm => (show it2 (60 * 2 + m) = U.2.2.1 (60 * 2 + m) by rw [hit, if_neg (by omega)])), k.s3.keep rfl rfl (fun m hm => (show it2 (60 * 3 + m) = U.2.2.1 (60 * 3 + m) by rw [hit, if_neg (by omega)]))⟩⟩
theorem ag_copy02 (i j n : Int32) : Agr isI MX11_copy MX12_copy [.int (nI 0), .int i, .int (nI 2), .int j, .int n] := by
  intro c m hs
  obtain ⟨t0, t1, G, N, T, C, D, P, S, H0, H1, H2, H3, ta, lf, U, B, F, A, se, R, O, V, al, dr, rfl, rfl, k⟩ := hs
  refine ⟨_, ev_copy02 t0 t1 G N T C D P S H0 H1 H2 H3 ta lf i j n k.s0.z k.s2.z, ?_⟩
  rintro v c1 (⟨q, rfl, rfl⟩ | ⟨q, e, rfl, rfl⟩ | ⟨q, e, b, rfl, rfl⟩ | ⟨q, e, b, rfl, rfl⟩)
  · refine ⟨⟨_, rfl⟩, cw_of _ _ _ _ _ _ _ _ _ _ _ _ _ _ _, Ev.mono (ev_X12_copy U lf B F A se R O V al dr 0 2 (by decide) (by decide) H0.2.2.1 H2.2.2.1 k.s0.z k.s2.z k.s0.sz k.s2.sz i j n) ?_⟩
    intro v2 m1 h
    rw [lost_iff k.s0 k.s2] at h
    rcases h with ⟨q2, rfl, rfl⟩ | ⟨q2, e2, rfl, rfl⟩ | ⟨q2, e2, b2, rfl, rfl⟩ | ⟨q2, e2, b2, rfl, it2, mv2, rfl, hit⟩
    · exact ⟨rfl, sim_of k⟩
    · exact absurd q q2
    · exact absurd q q2
    · exact absurd q q2
  · refine ⟨⟨_, rfl⟩, cw_of _ _ _ _ _ _ _ _ _ _ _ _ _ _ _, Ev.mono (ev_X12_copy U lf B F A se R O V al dr 0 2 (by decide) (by decide) H0.2.2.1 H2.2.2.1 k.s0.z k.s2.z k.s0.sz k.s2.sz i j n) ?_⟩
    intro v2 m1 h
    rw [lost_iff k.s0 k.s2] at h
    rcases h with ⟨q2, rfl, rfl⟩ | ⟨q2, e2, rfl, rfl⟩ | ⟨q2, e2, b2, rfl, rfl⟩ | ⟨q2, e2, b2, rfl, it2, mv2, rfl, hit⟩
    · exact absurd q2 q
    · exact ⟨rfl, sim_of k⟩
    · exact absurd ((form_iff k.s0 k.s2 q).mp e2) e
    · exact absurd ((form_iff k.s0 k.s2 q).mp e2) e
  · refine ⟨⟨_, rfl⟩, cw_of _ _ _ _ _ _ _ _ _ _ _ _ _ _ _, Ev.mono (ev_X12_copy U lf B F A se R O V al dr 0 2 (by decide) (by decide) H0.2.2.1 H2.2.2.1 k.s0.z k.s2.z k.s0.sz k.s2.sz i j n) ?_⟩
    intro v2 m1 h
    rw [lost_iff k.s0 k.s2] at h
    rcases h with ⟨q2, rfl, rfl⟩ | ⟨q2, e2, rfl, rfl⟩ | ⟨q2, e2, b2, rfl, rfl⟩ | ⟨q2, e2, b2, rfl, it2, mv2, rfl, hit⟩
    · exact absurd q2 q
    · exact absurd ((form_iff k.s0 k.s2 q).mpr e) e2
    · exact ⟨rfl, sim_of k⟩
    · exact absurd b b2
  · refine ⟨⟨_, rfl⟩, cw_of _ _ _ _ _ _ _ _ _ _ _ _ _ _ _, Ev.mono (ev_X12_copy U lf B F A se R O V al dr 0 2 (by decide) (by decide) H0.2.2.1 H2.2.2.1 k.s0.z k.s2.z k.s0.sz k.s2.sz i j n) ?_⟩
    intro v2 m1 h
    rw [lost_iff k.s0 k.s2] at h
    rcases h with ⟨q2, rfl, rfl⟩ | ⟨q2, e2, rfl, rfl⟩ | ⟨q2, e2, b2, rfl, rfl⟩ | ⟨q2, e2, b2, rfl, it2, mv2, rfl, hit⟩
    · exact absurd q2 q
    · exact absurd ((form_iff k.s0 k.s2 q).mpr e) e2
    · exact absurd b2 b
    · have z1 : H0.1 = 0 := Decidable.of_not_not fun z => q (Or.inl z)
      have z2 : H2.1 = 0 := Decidable.of_not_not fun z => q (Or.inr z)
      have hz1 := k.s0.z
      have hz2 := k.s2.z
      have r1 := cp_rng k.s0.z (fun z => b (Or.inl z))
      have r2 := cp_rng k.s2.z (fun z => b (Or.inr z))
      exact ⟨rfl, sim_of ⟨k.c47, k.c12, k.gi, k.ni, k.tt, k.crs, k.pin, k.ss, k.q0, k.q1, k.ok, k.s0.keep rfl rfl (fun m hm => (show it2 (60 * 0 + m) = U.2.2.1 (60 * 0 + m) by rw [hit, if_neg (by omega)])), k.s1.keep rfl rfl (fun m hm => (show it2 (60 * 1 + m) = U.2.2.1 (60 * 1 + m) by rw [hit, if_neg (by omega)])), HEq2.copy k.s0 k.s2 z1 z2 r1 r2 hit, k.s3.keep rfl rfl (fun m hm => (show it2 (60 * 3 + m) = U.2.2.1 (60 * 3 + m) by rw [hit, if_neg (by omega)]))⟩⟩
theorem ag_copy03 (i j n : Int32) : Agr isI MX11_copy MX12_copy [.int (nI 0), .int i, .int (nI 3), .int j, .int n] := by
  intro c m hs
  obtain ⟨t0, t1, G, N, T, C, D, P, S, H0, H1, H2, H3, ta, lf, U, B, F, A, se, R, O, V, al, dr, rfl, rfl, k⟩ := hs
  refine ⟨_, ev_copy03 t0 t1 G N T C D P S H0 H1 H2 H3 ta lf i j n k.s0.z k.s3.z, ?_⟩
  rintro v c1 (⟨q, rfl, rfl⟩ | ⟨q, e, rfl, rfl⟩ | ⟨q, e, b, rfl, rfl⟩ | ⟨q, e, b, rfl, rfl⟩)
  · refine ⟨⟨_, rfl⟩, cw_of _ _ _ _ _ _ _ _ _ _ _ _ _ _ _, Ev.mono (ev_X12_copy U lf B F A se R O V al dr 0 3 (by decide) (by decide) H0.2.2.1 H3.2.2.1 k.s0.z k.s3.z k.s0.sz k.s3.sz i j n) ?_⟩
    intro v2 m1 h
    rw [lost_iff k.s0 k.s3] at h
    rcases h with ⟨q2, rfl, rfl⟩ | ⟨q2, e2, rfl, rfl⟩ | ⟨q2, e2, b2, rfl, rfl⟩ | ⟨q2, e2, b2, rfl, it2, mv2, rfl, hit⟩
    · exact ⟨rfl, sim_of k⟩
    · exact absurd q q2
    · exact absurd q q2
    · exact absurd q q2
  · refine ⟨⟨_, rfl⟩, cw_of _ _ _ _ _ _ _ _ _ _ _ _ _ _ _, Ev.mono (ev_X12_copy U lf B F A se R O V al dr 0 3 (by decide) (by decide) H0.2.2.1 H3.2.2.1 k.s0.z k.s3.z k.s0.sz k.s3.sz i j n) ?_⟩
    intro v2 m1 h
    rw [lost_iff k.s0 k.s3] at h
    rcases h with ⟨q2, rfl, rfl⟩ | ⟨q2, e2, rfl, rfl⟩ | ⟨q2, e2, b2, rfl, rfl⟩ | ⟨q2, e2, b2, rfl, it2, mv2, rfl, hit⟩
    · exact absurd q2 q
    · exact ⟨rfl, sim_of k⟩
    · exact absurd ((form_iff k.s0 k.s3 q).mp e2) e
    · exact absurd ((form_iff k.s0 k.s3 q).mp e2) e
  · refine ⟨⟨_, rfl⟩, cw_of _ _ _ _ _ _ _ _ _ _ _ _ _ _ _, Ev.mono (ev_X12_copy U lf B F A se R O V al dr 0 3 (by decide) (by decide) H0.2.2.1 H3.2.2.1 k.s0.z k.s3.z k.s0.sz k.s3.sz i j n) ?_⟩
    intro v2 m1 h
    rw [lost_iff k.s0 k.s3] at h
    rcases h with ⟨q2, rfl, rfl⟩ | ⟨q2, e2, rfl, rfl⟩ | ⟨q2, e2, b2, rfl, rfl⟩ | ⟨q2, e2, b2, rfl, it2, mv2, rfl, hit⟩
    · exact absurd q2 q
    · exact absurd ((form_iff k.s0 k.s3 q).mpr e) e2
    · exact ⟨rfl, sim_of k⟩
    · exact absurd b b2
  · refine ⟨⟨_, rfl⟩, cw_of _ _ _ _ _ _ _ _ _ _ _ _ _ _ _, Ev.mono (ev_X12_copy U lf B F A se R O V al dr 0 3 (by decide) (by decide) H0.2.2.1 H3.2.2.1 k.s0.z k.s3.z k.s0.sz k.s3.sz i j n) ?_⟩
    intro v2 m1 h
    rw [lost_iff k.s0 k.s3] at h
    rcases h with ⟨q2, rfl, rfl⟩ | ⟨q2, e2, rfl, rfl⟩ | ⟨q2, e2, b2, rfl, rfl⟩ | ⟨q2, e2, b2, rfl, it2, mv2, rfl, hit⟩
    · exact absurd q2 q
    · exact absurd ((form_iff k.s0 k.s3 q).mpr e) e2
    · exact absurd b2 b
    · have z1 : H0.1 = 0 := Decidable.of_not_not fun z => q (Or.inl z)
      have z2 : H3.1 = 0 := Decidable.of_not_not fun z => q (Or.inr z)
      have hz1 := k.s0.z
      have hz2 := k.s3.z
      have r1 := cp_rng k.s0.z (fun z => b (Or.inl z))
      have r2 := cp_rng k.s3.z (fun z => b (Or.inr z))
      exact ⟨rfl, sim_of ⟨k.c47, k.c12, k.gi, k.ni, k.tt, k.crs, k.pin, k.ss, k.q0, k.q1, k.ok, k.s0.keep rfl rfl (fun m hm => (show it2 (60 * 0 + m) = U.2.2.1 (60 * 0 + m) by rw [hit, if_neg (by omega)])), k.s1.keep rfl rfl (fun m hm => (show it2 (60 * 1 + m) = U.2.2.1 (60 * 1 + m) by rw [hit, if_neg (by omega)])), k.s2.keep rfl rfl (fun m hm => (show it2 (60 * 2 + m) = U.2.2.1 (60 * 2 + m) by rw [hit, if_neg (by omega)])), HEq2.copy k.s0 k.s3 z1 z2 r1 r2 hit⟩⟩
theorem ag_copy10 (i j n : Int32) : Agr isI MX11_copy MX12_copy [.int (nI 1), .int i, .int (nI 0), .int j, .int n] := by
  intro c m hs
  obtain ⟨t0, t1, G, N, T, C, D, P, S, H0, H1, H2, H3, ta, lf, U, B, F, A, se, R, O, V, al, dr, rfl, rfl, k⟩ := hs
  refine ⟨_, ev_copy10 t0 t1 G N T C D P S H0 H1 H2 H3 ta lf i j n k.s1.z k.s0.z, ?_⟩
  rintro v c1 (⟨q, rfl, rfl⟩ | ⟨q, e, rfl, rfl⟩ | ⟨q, e, b, rfl, rfl⟩ | ⟨q, e, b, rfl, rfl⟩)
  · refine ⟨⟨_, rfl⟩, cw_of _ _ _ _ _ _ _ _ _ _ _ _ _ _ _, Ev.mono (ev_X12_copy U lf B F A se R O V al dr 1 0 (by decide) (by decide) H1.2.2.1 H0.2.2.1 k.s1.z k.s0.z k.s1.sz k.s0.sz i j n) ?_⟩
    intro v2 m1 h
    rw [lost_iff k.s1 k.s0] at h
    rcases h with ⟨q2, rfl, rfl⟩ | ⟨q2, e2, rfl, rfl⟩ | ⟨q2, e2, b2, rfl, rfl⟩ | ⟨q2, e2, b2, rfl, it2, mv2, rfl, hit⟩
    · exact ⟨rfl, sim_of k⟩
    · exact absurd q q2
    · exact absurd q q2
    · exact absurd q q2
  · refine ⟨⟨_, rfl⟩, cw_of _ _ _ _ _ _ _ _ _ _ _ _ _ _ _, Ev.mono (ev_X12_copy U lf B F A se R O V al dr 1 0 (by decide) (by decide) H1.2.2.1 H0.2.2.1 k.s1.z k.s0.z k.s1.sz k.s0.sz i j n) ?_⟩
    intro v2 m1 h
    rw [lost_iff k.s1 k.s0] at h
    rcases h with ⟨q2, rfl, rfl⟩ | ⟨q2, e2, rfl, rfl⟩ | ⟨q2, e2, b2, rfl, rfl⟩ | ⟨q2, e2, b2, rfl, it2, mv2, rfl, hit⟩
    · exact absurd q2 q
    · exact ⟨rfl, sim_of k⟩
    · exact absurd ((form_iff k.s1 k.s0 q).mp e2) e
    · exact absurd ((form_iff k.s1 k.s0 q).mp e2) e
  · refine ⟨⟨_, rfl⟩, cw_of _ _ _ _ _ _ _ _ _ _ _ _ _ _ _, Ev.mono (ev_X12_copy U lf B F A se R O V al dr 1 0 (by decide) (by decide) H1.2.2.1 H0.2.2.1 k.s1.z k.s0.z k.s1.sz k.s0.sz i j n) ?_⟩
    intro v2 m1 h
    rw [lost_iff k.s1 k.s0] at h
    rcases h with ⟨q2, rfl, rfl⟩ | ⟨q2, e2, rfl, rfl⟩ | ⟨q2, e2, b2, rfl, rfl⟩ | ⟨q2, e2, b2, rfl, it2, mv2, rfl, hit⟩
    · exact absurd q2 q
    · exact absurd ((form_iff k.s1 k.s0 q).mpr e) e2
    · exact ⟨rfl, sim_of k⟩
    · exact absurd b b2
  · refine ⟨⟨_, rfl⟩, cw_of _ _ _ _ _ _ _ _ _ _ _ _ _ _ _, Ev.mono (ev_X12_copy U lf B F A se R O V al dr 1 0 (by decide) (by decide) H1.2.2.1 H0.2.2.1 k.s1.z k.s0.z k.s1.sz k.s0.sz i j n) ?_⟩
    intro v2 m1 h
    rw [lost_iff k.s1 k.s0] at h
    rcases h with ⟨q2, rfl, rfl⟩ | ⟨q2, e2, rfl, rfl⟩ | ⟨q2, e2, b2, rfl, rfl⟩ | ⟨q2, e2, b2, rfl, it2, mv2, rfl, hit⟩
    · exact absurd q2 q
    · exact absurd ((form_iff k.s1 k.s0 q).mpr e) e2
    · exact absurd b2 b
    · have z1 : H1.1 = 0 := Decidable.of_not_not fun z => q (Or.inl z)
      have z2 : H0.1 = 0 := Decidable.of_not_not fun z => q (Or.inr z)
      have hz1 := k.s1.z
      have hz2 := k.s0.z
      have r1 := cp_rng k.s1.z (fun z => b (Or.inl z))
      have r2 := cp_rng k.s0.z (fun z => b (Or.inr z))
      exact ⟨rfl, sim_of ⟨k.c47, k.c12, k.gi, k.ni, k.tt, k.crs, k.pin, k.ss, k.q0, k.q1, k.ok, HEq2.copy k.s1 k.s0 z1 z2 r1 r2 hit, k.s1.keep rfl rfl (fun m hm => (show it2 (60 * 1 + m) = U.2.2.1 (60 * 1 + m) by rw [hit, if_neg (by omega)])), k.s2.keep rfl rfl (fun m hm => (show it2 (60 * 2 + m) = U.2.2.1 (60 * 2 + m) by rw [hit, if_neg (by omega)])), k.s3.keep rfl rfl (fun m hm => (show it2 (60 * 3 + m) = U.2.2.1 (60 * 3 + m) by rw [hit, if_neg (by omega)]))⟩⟩
theorem ag_copy11 (i j n : Int32) : Agr isI MX11_copy MX12_copy [.int (nI 1), .int i, .int (nI 1), .int j, .int n] := by
  intro c m hs
  obtain ⟨t0, t1, G, N, T, C, D, P, S, H0, H1, H2, H3, ta, lf, U, B, F, A, se, R, O, V, al, dr, rfl, rfl, k⟩ := hs
  refine ⟨_, ev_copy11 t0 t1 G N T C D P S H0 H1 H2 H3 ta lf i j n k.s1.z k.s1.z, ?_⟩
  rintro v c1 (⟨q, rfl, rfl⟩ | ⟨q, e, rfl, rfl⟩ | ⟨q, e, b, rfl, rfl⟩ | ⟨q, e, b, rfl, rfl⟩)
  · refine ⟨⟨_, rfl⟩, cw_of _ _ _ _ _ _ _ _ _ _ _ _ _ _ _, Ev.mono (ev_X12_copy U lf B F A se R O V al dr 1 1 (by decide) (by decide) H1.2.2.1 H1.2.2.1 k.s1.z k.s1.z k.s1.sz k.s1.sz i j n) ?_⟩
    intro v2 m1 h
    rw [lost_iff k.s1 k.s1] at h
    rcases h with ⟨q2, rfl, rfl⟩ | ⟨q2, e2, rfl, rfl⟩ | ⟨q2, e2, b2, rfl, rfl⟩ | ⟨q2, e2, b2, rfl, it2, mv2, rfl, hit⟩
    · exact ⟨rfl, sim_of k⟩
    · exact absurd q q2
    · exact absurd q q2
    · exact absurd q q2
  · refine ⟨⟨_, rfl⟩, cw_of _ _ _ _ _ _ _ _ _ _ _ _ _ _ _, Ev.mono (ev_X12_copy U lf B F A se R O V al dr 1 1 (by decide) (by decide) H1.2.2.1 H1.2.2.1 k.s1.z k.s1.z k.s1.sz k.s1.sz i j n) ?_⟩
    intro v2 m1 h
    rw [lost_iff k.s1 k.s1] at h
    rcases h with ⟨q2, rfl, rfl⟩ | ⟨q2, e2, rfl, rfl⟩ | ⟨q2, e2, b2, rfl, rfl⟩ | ⟨q2, e2, b2, rfl, it2, mv2, rfl, hit⟩
    · exact absurd q2 q
    · exact ⟨rfl, sim_of k⟩
    · exact absurd ((form_iff k.s1 k.s1 q).mp e2) e
    · exact absurd ((form_iff k.s1 k.s1 q).mp e2) e
  · refine ⟨⟨_, rfl⟩, cw_of _ _ _ _ _ _ _ _ _ _ _ _ _ _ _, Ev.mono (ev_X12_copy U lf B F A se R O V al dr 1 1 (by decide) (by decide) H1.2.2.1 H1.2.2.1 k.s1.z k.s1.z k.s1.sz k.s1.sz i j n) ?_⟩
    intro v2 m1 h
    rw [lost_iff k.s1 k.s1] at h
    rcases h with ⟨q2, rfl, rfl⟩ | ⟨q2, e2, rfl, rfl⟩ | ⟨q2, e2, b2, rfl, rfl⟩ | ⟨q2, e2, b2, rfl, it2, mv2, rfl, hit⟩
    · exact absurd q2 q
    · exact absurd ((form_iff k.s1 k.s1 q).mpr e) e2
    · exact ⟨rfl, sim_of k⟩
    · exact absurd b b2
  · refine ⟨⟨_, rfl⟩, cw_of _ _ _ _ _ _ _ _ _ _ _ _ _ _ _, Ev.mono (ev_X12_copy U lf B F A se R O V al dr 1 1 (by decide) (by decide) H1.2.2.1 H1.2.2.1 k.s1.z k.s1.z k.s1.sz k.s1.sz i j n) ?_⟩
    intro v2 m1 h
    rw [lost_iff k.s1 k.s1] at h
    rcases h with ⟨q2, rfl, rfl⟩ | ⟨q2, e2, rfl, rfl⟩ | ⟨q2, e2, b2, rfl, rfl⟩ | ⟨q2, e2, b2, rfl, it2, mv2, rfl, hit⟩
    · exact absurd q2 q
    · exact absurd ((form_iff k.s1 k.s1 q).mpr e) e2
    · exact absurd b2 b
    · have z1 : H1.1 = 0 := Decidable.of_not_not fun z => q (Or.inl z)
      have z2 : H1.1 = 0 := Decidable.of_not_not fun z => q (Or.inr z)
      have hz1 := k.s1.z
      have hz2 := k.s1.z
      have r1 := cp_rng k.s1.z (fun z => b (Or.inl z))
      have r2 := cp_rng k.s1.z (fun z => b (Or.inr z))
      exact ⟨rfl, sim_of ⟨k.c47, k.c12, k.gi, k.ni, k.tt, k.crs, k.pin, k.ss, k.q0, k.q1, k.ok, k.s0.keep rfl rfl (fun m hm => (show it2 (60 * 0 + m) = U.2.2.1 (60 * 0 + m) by rw [hit, if_neg (by omega)])), HEq2.copy k.s1 k.s1 z1 z2 r1 r2 hit, k.s2.keep rfl rfl (fun m hm => (show it2 (60 * 2 + m) = U.2.2.1 (60 * 2 + m) by rw [hit, if_neg (by omega)])), k.s3.keep rfl rfl (fun m hm => (show it2 (60 * 3 + m) = U.2.2.1 (60 * 3 + m) by rw [hit, if_neg (by omega)]))⟩⟩
theorem ag_copy12 (i j n : Int32) : Agr isI MX11_copy MX12_copy [.int (nI 1), .int i, .int (nI 2), .int j, .int n] := by
  intro c m hs
  obtain ⟨t0, t1, G, N, T, C, D, P, S, H0, H1, H2, H3, ta, lf, U, B, F, A, se, R, O, V, al, dr, rfl, rfl, k⟩ := hs
  refine ⟨_, ev_copy12 t0 t1 G N T C D P S H0 H1 H2 H3 ta lf i j n k.s1.z k.s2.z, ?_⟩
  rintro v c1 (⟨q, rfl, rfl⟩ | ⟨q, e, rfl, rfl⟩ | ⟨q, e, b, rfl, rfl⟩ | ⟨q, e, b, rfl, rfl⟩)
  · refine ⟨⟨_, rfl⟩, cw_of _ _ _ _ _ _ _ _ _ _ _ _ _ _ _, Ev.mono (ev_X12_copy U lf B F A se R O V al dr 1 2 (by decide) (by decide) H1.2.2.1 H2.2.2.1 k.s1.z k.s2.z k.s1.sz k.s2.sz i j n) ?_⟩
    intro v2 m1 h
    rw [lost_iff k.s1 k.s2] at h
    rcases h with ⟨q2, rfl, rfl⟩ | ⟨q2, e2, rfl, rfl⟩ | ⟨q2, e2, b2, rfl, rfl⟩ | ⟨q2, e2, b2, rfl, it2, mv2, rfl, hit⟩
    · exact ⟨rfl, sim_of k⟩
    · exact absurd q q2
    · exact absurd q q2
    · exact absurd q q2
  · refine ⟨⟨_, rfl⟩, cw_of _ _ _ _ _ _ _ _ _ _ _ _ _ _ _, Ev.mono (ev_X12_copy U lf B F A se R O V al dr 1 2 (by decide) (by decide) H1.2.2.1 H2.2.2.1 k.s1.z k.s2.z k.s1.sz k.s2.sz i j n) ?_⟩
    intro v2 m1 h
    rw [lost_iff k.s1 k.s2] at h
    rcases h with ⟨q2, rfl, rfl⟩ | ⟨q2, e2, rfl, rfl⟩ | ⟨q2, e2, b2, rfl, rfl⟩ | ⟨q2, e2, b2, rfl, it2, mv2, rfl, hit⟩
    · exact absurd q2 q
    · exact ⟨rfl, sim_of k⟩
    · exact absurd ((form_iff k.s1 k.s2 q).mp e2) e
    · exact absurd ((form_iff k.s1 k.s2 q).mp e2) e
  · refine ⟨⟨_, rfl⟩, cw_of _ _ _ _ _ _ _ _ _ _ _ _ _ _ _, Ev.mono (ev_X12_copy U lf B F A se R O V al dr 1 2 (by decide) (by decide) H1.2.2.1 H2.2.2.1 k.s1.z k.s2.z k.s1.sz k.s2.sz i j n) ?_⟩
    intro v2 m1 h
    rw [lost_iff k.s1 k.s2] at h
    rcases h with ⟨q2, rfl, rfl⟩ | ⟨q2, e2, rfl, rfl⟩ | ⟨q2, e2, b2, rfl, rfl⟩ | ⟨q2, e2, b2, rfl, it2, mv2, rfl, hit⟩
    · exact absurd q2 q
    · exact absurd ((form_iff k.s1 k.s2 q).mpr e) e2
    · exact ⟨rfl, sim_of k⟩
    · exact absurd b b2
  · refine ⟨⟨_, rfl⟩, cw_of _ _ _ _ _ _ _ _ _ _ _ _ _ _ _, Ev.mono (ev_X12_copy U lf B F A se R O V al dr 1 2 (by decide) (by decide) H1.2.2.1 H2.2.2.1 k.s1.z k.s2.z k.s1.sz k.s2.sz i j n) ?_⟩
    intro v2 m1 h
    rw [lost_iff k.s1 k.s2] at h
    rcases h with ⟨q2, rfl, rfl⟩ | ⟨q2, e2, rfl, rfl⟩ | ⟨q2, e2, b2, rfl, rfl⟩ | ⟨q2, e2, b2, rfl, it2, mv2, rfl, hit⟩
    · exact absurd q2 q
    · exact absurd ((form_iff k.s1 k.s2 q).mpr e) e2
    · exact absurd b2 b
    · have z1 : H1.1 = 0 := Decidable.of_not_not fun z => q (Or.inl z)
      have z2 : H2.1 = 0 := Decidable.of_not_not fun z => q (Or.inr z)
      have hz1 := k.s1.z
      have hz2 := k.s2.z
      have r1 := cp_rng k.s1.z (fun z => b (Or.inl z))
      have r2 := cp_rng k.s2.z (fun z => b (Or.inr z))
      exact ⟨rfl, sim_of ⟨k.c47, k.c12, k.gi, k.ni, k.tt, k.crs, k.pin, k.ss, k.q0, k.q1, k.ok, k.s0.keep rfl rfl (fun m hm => (show it2 (60 * 0 + m) = U.2.2.1 (60 * 0 + m) by rw [hit, if_neg (by omega)])), k.s1.keep rfl rfl (fun m hm => (show it2 (60 * 1 + m) = U.2.2.1 (60 * 1 + m) by rw [hit, if_neg (by omega)])), HEq2.copy k.s1 k.s2 z1 z2 r1 r2 hit, k.s3.keep rfl rfl (fun m hm => (show it2 (60 * 3 + m) = U.2.2.1 (60 * 3 + m) by rw [hit, if_neg (by omega)]))⟩⟩
theorem ag_copy13 (i j n : Int32) : Agr isI MX11_copy MX12_copy [.int (nI 1), .int i, .int (nI 3), .int j, .int n] := by
  intro c m hs
  obtain ⟨t0, t1, G, N, T, C, D, P, S, H0, H1, H2, H3, ta, lf, U, B, F, A, se, R, O, V, al, dr, rfl, rfl, k⟩ := hs
  refine ⟨_, ev_copy13 t0 t1 G N T C D P S H0 H1 H2 H3 ta lf i j n k.s1.z k.s3.z, ?_⟩
  rintro v c1 (⟨q, rfl, rfl⟩ | ⟨q, e, rfl, rfl⟩ | ⟨q, e, b, rfl, rfl⟩ | ⟨q, e, b, rfl, rfl⟩)
  · refine ⟨⟨_, rfl⟩, cw_of _ _ _ _ _ _ _ _ _ _ _ _ _ _ _, Ev.mono (ev_X12_copy U lf B F A se R O V al dr 1 3 (by decide) (by decide) H1.2.2.1 H3.2.2.1 k.s1.z k.s3.z k.s1.sz k.s3.sz i j n) ?_⟩
    intro v2 m1 h
    rw [lost_iff k.s1 k.s3] at h
    rcases h with ⟨q2, rfl, rfl⟩ | ⟨q2, e2, rfl, rfl⟩ | ⟨q2, e2, b2, rfl, rfl⟩ | ⟨q2, e2, b2, rfl, it2, mv2, rfl, hit⟩
    · exact ⟨rfl, sim_of k⟩
    · exact absurd q q2
    · exact absurd q q2
    · exact absurd q q2
  · refine ⟨⟨_, rfl⟩, cw_of _ _ _ _ _ _ _ _ _ _ _ _ _ _ _, Ev.mono (ev_X12_copy U lf B F A se R O V al dr 1 3 (by decide) (by decide) H1.2.2.1 H3.2.2.1 k.s1.z k.s3.z k.s1.sz k.s3.sz i j n) ?_⟩
    intro v2 m1 h
    rw [lost_iff k.s1 k.s3] at h
    rcases h with ⟨q2, rfl, rfl⟩ | ⟨q2, e2, rfl, rfl⟩ | ⟨q2, e2, b2, rfl, rfl⟩ | ⟨q2, e2, b2, rfl, it2, mv2, rfl, hit⟩
    · exact absurd q2 q
    · exact ⟨rfl, sim_of k⟩
    · exact absurd ((form_iff k.s1 k.s3 q).mp e2) e
    · exact absurd ((form_iff k.s1 k.s3 q).mp e2) e
  · refine ⟨⟨_, rfl⟩, cw_of _ _ _ _ _ _ _ _ _ _ _ _ _ _ _, Ev.mono (ev_X12_copy U lf B F A se R O V al dr 1 3 (by decide) (by decide) H1.2.2.1 H3.2.2.1 k.s1.z k.s3.z k.s1.sz k.s3.sz i j n) ?_⟩
    intro v2 m1 h
    rw [lost_iff k.s1 k.s3] at h
    rcases h with ⟨q2, rfl, rfl⟩ | ⟨q2, e2, rfl, rfl⟩ | ⟨q2, e2, b2, rfl, rfl⟩ | ⟨q2, e2, b2, rfl, it2, mv2, rfl, hit⟩
    · exact absurd q2 q
    · exact absurd ((form_iff k.s1 k.s3 q).mpr e) e2
    · exact ⟨rfl, sim_of k⟩
    · exact absurd b b2
  · refine ⟨⟨_, rfl⟩, cw_of _ _ _ _ _ _ _ _ _ _ _ _ _ _ _, Ev.mono (ev_X12_copy U lf B F A se R O V al dr 1 3 (by decide) (by decide) H1.2.2.1 H3.2.2.1 k.s1.z k.s3.z k.s1.sz k.s3.sz i j n) ?_⟩
    intro v2 m1 h
    rw [lost_iff k.s1 k.s3] at h
    rcases h with ⟨q2, rfl, rfl⟩ | ⟨q2, e2, rfl, rfl⟩ | ⟨q2, e2, b2, rfl, rfl⟩ | ⟨q2, e2, b2, rfl, it2, mv2, rfl, hit⟩
    · exact absurd q2 q
    · exact absurd ((form_iff k.s1 k.s3 q).mpr e) e2
    · exact absurd b2 b
    · have z1 : H1.1 = 0 := Decidable.of_not_not fun z => q (Or.inl z)
      have z2 : H3.1 = 0 := Decidable.of_not_not fun z => q (Or.inr z)
      have hz1 := k.s1.z
      have hz2 := k.s3.z
      have r1 := cp_rng k.s1.z (fun z => b (Or.inl z))
      have r2 := cp_rng k.s3.z (fun z => b (Or.inr z))
      exact ⟨rfl, sim_of ⟨k.c47, k.c12, k.gi, k.ni, k.tt, k.crs, k.pin, k.ss, k.q0, k.q1, k.ok, k.s0.keep rfl rfl (fun m hm => (show it2 (60 * 0 + m) = U.2.2.1 (60 * 0 + m) by rw [hit, if_neg (by omega)])), k.s1.keep rfl rfl (fun m hm => (show it2 (60 * 1 + m) = U.2.2.1 (60 * 1 + m) by rw [hit, if_neg (by omega)])), k.s2.keep rfl rfl (fun m hm => (show it2 (60 * 2 + m) = U.2.2.1 (60 * 2 + m) by rw [hit, if_neg (by omega)])), HEq2.copy k.s1 k.s3 z1 z2 r1 r2 hit⟩⟩
theorem ag_copy20 (i j n : Int32) : Agr isI MX11_copy MX12_copy [.int (nI 2), .int i, .int (nI 0), .int j, .int n] := by
  intro c m hs
  obtain ⟨t0, t1, G, N, T, C, D, P, S, H0, H1, H2, H3, ta, lf, U, B, F, A, se, R, O, V, al, dr, rfl, rfl, k⟩ := hs
  refine ⟨_, ev_copy20 t0 t1 G N T C D P S H0 H1 H2 H3 ta lf i j n k.s2.z k.s0.z, ?_⟩
  rintro v c1 (⟨q, rfl, rfl⟩ | ⟨q, e, rfl, rfl⟩ | ⟨q, e, b, rfl, rfl⟩ | ⟨q, e, b, rfl, rfl⟩)
  · refine ⟨⟨_, rfl⟩, cw_of _ _ _ _ _ _ _ _ _ _ _ _ _ _ _, Ev.mono (ev_X12_copy U lf B F A se R O V al dr 2 0 (by decide) (by decide) H2.2.2.1 H0.2.2.1 k.s2.z k.s0.z k.s2.sz k.s0.sz i j n) ?_⟩
    intro v2 m1 h
    rw [lost_iff k.s2 k.s0] at h
    rcases h with ⟨q2, rfl, rfl⟩ | ⟨q2, e2, rfl, rfl⟩ | ⟨q2, e2, b2, rfl, rfl⟩ | ⟨q2, e2, b2, rfl, it2, mv2, rfl, hit⟩
    · exact ⟨rfl, sim_of k⟩
    · exact absurd q q2
    · exact absurd q q2
    · exact absurd q q2
  · refine ⟨⟨_, rfl⟩, cw_of _ _ _ _ _ _ _ _ _ _ _ _ _ _ _, Ev.mono (ev_X12_copy U lf B F A se R O V al dr 2 0 (by decide) (by decide) H2.2.2.1 H0.2.2.1 k.s2.z k.s0.z k.s2.sz k.s0.sz i j n) ?_⟩
    intro v2 m1 h
    rw [lost_iff k.s2 k.s0] at h
    rcases h with ⟨q2, rfl, rfl⟩ | ⟨q2, e2, rfl, rfl⟩ | ⟨q2, e2, b2, rfl, rfl⟩ | ⟨q2, e2, b2, rfl, it2, mv2, rfl, hit⟩
    · exact absurd q2 q
    · exact ⟨rfl, sim_of k⟩
    · exact absurd ((form_iff k.s2 k.s0 q).mp e2) e
    · exact absurd ((form_iff k.s2 k.s0 q).mp e2) e
  · refine ⟨⟨_, rfl⟩, cw_of _ _ _ _ _ _ _ _ _ _ _ _ _ _ _, Ev.mono (ev_X12_copy U lf B F A se R O V al dr 2 0 (by decide) (by decide) H2.2.2.1 H0.2.2.1 k.s2.z k.s0.z k.s2.sz k.s0.sz i j n) ?_⟩
    intro v2 m1 h
    rw [lost_iff k.s2 k.s0] at h
    rcases h with ⟨q2, rfl, rfl⟩ | ⟨q2, e2, rfl, rfl⟩ | ⟨q2, e2, b2, rfl, rfl⟩ | ⟨q2, e2, b2, rfl, it2, mv2, rfl, hit⟩
    · exact absurd q2 q
    · exact absurd ((form_iff k.s2 k.s0 q).mpr e) e2
    · exact ⟨rfl, sim_of k⟩
    · exact absurd b b2
  · refine ⟨⟨_, rfl⟩, cw_of _ _ _ _ _ _ _ _ _ _ _ _ _ _ _, Ev.mono (ev_X12_copy U lf B F A se R O V al dr 2 0 (by decide) (by decide) H2.2.2.1 H0.2.2.1 k.s2.z k.s0.z k.s2.sz k.s0.sz i j n) ?_⟩
    intro v2 m1 h
    rw [lost_iff k.s2 k.s0] at h
    rcases h with ⟨q2, rfl, rfl⟩ | ⟨q2, e2, rfl, rfl⟩ | ⟨q2, e2, b2, rfl, rfl⟩ | ⟨q2, e2, b2, rfl, it2, mv2, rfl, hit⟩
    · exact absurd q2 q
    · exact absurd ((form_iff k.s2 k.s0 q).mpr e) e2
    · exact absurd b2 b
    · have z1 : H2.1 = 0 := Decidable.of_not_not fun z => q (Or.inl z)
      have z2 : H0.1 = 0 := Decidable.of_not_not fun z => q (Or.inr z)
      have hz1 := k.s2.z
      have hz2 := k.s0.z
      have r1 := cp_rng k.s2.z (fun z => b (Or.inl z))
      have r2 := cp_rng k.s0.z (fun z => b (Or.inr z))
      exact ⟨rfl, sim_of ⟨k.c47, k.c12, k.gi, k.ni, k.tt, k.crs, k.pin, k.ss, k.q0, k.q1, k.ok, HEq2.copy k.s2 k.s0 z1 z2 r1 r2 hit, k.s1.keep rfl rfl (fun m hm => (show it2 (60 * 1 + m) = U.2.2.1 (60 * 1 + m) by rw [hit, if_neg (by omega)])), k.s2.keep rfl rfl (fun m hm => (show it2 (60 * 2 + m) = U.2.2.1 (60 * 2 + m) by rw [hit, if_neg (by omega)])), k.s3.keep rfl rfl (fun m hm => (show it2 (60 * 3 + m) = U.2.2.1 (60 * 3 + m) by rw [hit, if_neg (by omega)]))⟩⟩
theorem ag_copy21 (i j n : Int32) : Agr isI MX11_copy MX12_copy [.int (nI 2), .int i, .int (nI 1), .int j, .int n] := by
  intro c m hs
  obtain ⟨t0, t1, G, N, T, C, D, P, S, H0, H1, H2, H3, ta, lf, U, B, F, A, se, R, O, V, al, dr, rfl, rfl, k⟩ := hs
  refine ⟨_, ev_copy21 t0 t1 G N T C D P S H0 H1 H2 H3 ta lf i j n k.s2.z k.s1.z, ?_⟩
  rintro v c1 (⟨q, rfl, rfl⟩ | ⟨q, e, rfl, rfl⟩ | ⟨q, e, b, rfl, rfl⟩ | ⟨q, e, b, rfl, rfl⟩)
  · refine ⟨⟨_, rfl⟩, cw_of _ _ _ _ _ _ _ _ _ _ _ _ _ _ _, Ev.mono (ev_X12_copy U lf B F A se R O V al dr 2 1 (by decide) (by decide) H2.2.2.1 H1.2.2.1 k.s2.z k.s1.z k.s2.sz k.s1.sz i j n) ?_⟩
    intro v2 m1 h
    rw [lost_iff k.s2 k.s1] at h
    rcases h with ⟨q2, rfl, rfl⟩ | ⟨q2, e2, rfl, rfl⟩ | ⟨q2, e2, b2, rfl, rfl⟩ | ⟨q2, e2, b2, rfl, it2, mv2, rfl, hit⟩
    · exact ⟨rfl, sim_of k⟩
    · exact absurd q q2
    · exact absurd q q2
    · exact absurd q q2
  · refine ⟨⟨_, rfl⟩, cw_of _ _ _ _ _ _ _ _ _ _ _ _ _ _ _, Ev.mono (ev_X12_copy U lf B F A se R O V al dr 2 1 (by decide) (by decide) H2.2.2.1 H1.2.2.1 k.s2.z k.s1.z k.s2.sz k.s1.sz i j n) ?_⟩
    intro v2 m1 h
    rw [lost_iff k.s2 k.s1] at h
    rcases h with ⟨q2, rfl, rfl⟩ | ⟨q2, e2, rfl, rfl⟩ | ⟨q2, e2, b2, rfl, rfl⟩ | ⟨q2, e2, b2, rfl, it2, mv2, rfl, hit⟩
    · exact absurd q2 q
    · exact ⟨rfl, sim_of k⟩
    · exact absurd ((form_iff k.s2 k.s1 q).mp e2) e
    · exact absurd ((form_iff k.s2 k.s1 q).mp e2) e
  · refine ⟨⟨_, rfl⟩, cw_of _ _ _ _ _ _ _ _ _ _ _ _ _ _ _, Ev.mono (ev_X12_copy U lf B F A se R O V al dr 2 1 (by decide) (by decide) H2.2.2.1 H1.2.2.1 k.s2.z k.s1.z k.s2.sz k.s1.sz i j n) ?_⟩
    intro v2 m1 h
    rw [lost_iff k.s2 k.s1] at h
    rcases h with ⟨q2, rfl, rfl⟩ | ⟨q2, e2, rfl, rfl⟩ | ⟨q2, e2, b2, rfl, rfl⟩ | ⟨q2, e2, b2, rfl, it2, mv2, rfl, hit⟩
    · exact absurd q2 q
    · exact absurd ((form_iff k.s2 k.s1 q).mpr e) e2
    · exact ⟨rfl, sim_of k⟩
    · exact absurd b b2
  · refine ⟨⟨_, rfl⟩, cw_of _ _ _ _ _ _ _ _ _ _ _ _ _ _ _, Ev.mono (ev_X12_copy U lf B F A se R O V al dr 2 1 (by decide) (by decide) H2.2.2.1 H1.2.2.1 k.s2.z k.s1.z k.s2.sz k.s1.sz i j n) ?_⟩
    intro v2 m1 h
    rw [lost_iff k.s2 k.s1] at h
    rcases h with ⟨q2, rfl, rfl⟩ | ⟨q2, e2, rfl, rfl⟩ | ⟨q2, e2, b2, rfl, rfl⟩ | ⟨q2, e2, b2, rfl, it2, mv2, rfl, hit⟩
    · exact absurd q2 q
    · exact absurd ((form_iff k.s2 k.s1 q).mpr e) e2
    · exact absurd b2 b
    · have z1 : H2.1 = 0 := Decidable.of_not_not fun z => q (Or.inl z)
      have z2 : H1.1 = 0 := Decidable.of_not_not fun z => q (Or.inr z)
      have hz1 := k.s2.z
      have hz2 := k.s1.z
      have r1 := cp_rng k.s2.z (fun z => b (Or.inl z))
      have r2 := cp_rng k.s1.z (fun z => b (Or.inr z))
      exact ⟨rfl, sim_of ⟨k.c47, k.c12, k.gi, k.ni, k.tt, k.crs, k.pin, k.ss, k.q0, k.q1, k.ok, k.s0.keep rfl rfl (fun m hm => (show it2 (60 * 0 + m) = U.2.2.1 (60 * 0 + m) by rw [hit, if_neg (by omega)])), HEq2.copy k.s2 k.s1 z1 z2 r1 r2 hit, k.s2.keep rfl rfl (fun m hm => (show it2 (60 * 2 + m) = U.2.2.1 (60 * 2 + m) by rw [hit, if_neg (by omega)])), k.s3.keep rfl rfl (fun m hm => (show it2 (60 * 3 + m) = U.2.2.1 (60 * 3 + m) by rw [hit, if_neg (by omega)]))⟩⟩
theorem ag_copy22 (i j n : Int32) : Agr isI MX11_copy MX12_copy [.int (nI 2), .int i, .int (nI 2), .int j, .int n] := by
  intro c m hs
  obtain ⟨t0, t1, G, N, T, C, D, P, S, H0, H1, H2, H3, ta, lf, U, B, F, A, se, R, O, V, al, dr, rfl, rfl, k⟩ := hs
  refine ⟨_, ev_copy22 t0 t1 G N T C D P S H0 H1 H2 H3 ta lf i j n k.s2.z k.s2.z, ?_⟩
  rintro v c1 (⟨q, rfl, rfl⟩ | ⟨q, e, rfl, rfl⟩ | ⟨q, e, b, rfl, rfl⟩ | ⟨q, e, b, rfl, rfl⟩)
  · refine ⟨⟨_, rfl⟩, cw_of _ _ _ _ _ _ _ _ _ _ _ _ _ _ _, Ev.mono (ev_X12_copy U lf B F A se R O V al dr 2 2 (by decide) (by decide) H2.2.2.1 H2.2.2.1 k.s2.z k.s2.z k.s2.sz k.s2.sz i j n) ?_⟩
    intro v2 m1 h
    rw [lost_iff k.s2 k.s2] at h
    rcases h with ⟨q2, rfl, rfl⟩ | ⟨q2, e2, rfl, rfl⟩ | ⟨q2, e2, b2, rfl, rfl⟩ | ⟨q2, e2, b2, rfl, it2, mv2, rfl, hit⟩
    · exact ⟨rfl, sim_of k⟩
    · exact absurd q q2
    · exact absurd q q2
    · exact absurd q q2
  · refine ⟨⟨_, rfl⟩, cw_of _ _ _ _ _ _ _ _ _ _ _ _ _ _ _, Ev.mono (ev_X12_copy U lf B F A se R O V al dr 2 2 (by decide) (by decide) H2.2.2.1 H2.2.2.1 k.s2.z k.s2.z k.s2.sz k.s2.sz i j n) ?_⟩
    intro v2 m1 h
    rw [lost_iff k.s2 k.s2] at h
    rcases h with ⟨q2, rfl, rfl⟩ | ⟨q2, e2, rfl, rfl⟩ | ⟨q2, e2, b2, rfl, rfl⟩ | ⟨q2, e2, b2, rfl, it2, mv2, rfl, hit⟩
    · exact absurd q2 q
    · exact ⟨rfl, sim_of k⟩
    · exact absurd ((form_iff k.s2 k.s2 q).mp e2) e
    · exact absurd ((form_iff k.s2 k.s2 q).mp e2) e
  · refine ⟨⟨_, rfl⟩, cw_of _ _ _ _ _ _ _ _ _ _ _ _ _ _ _, Ev.mono (ev_X12_copy U lf B F A se R O V al dr 2 2 (by decide) (by decide) H2.2.2.1 H2.2.2.1 k.s2.z k.s2.z k.s2.sz k.s2.sz i j n) ?_⟩
    intro v2 m1 h
    rw [lost_iff k.s2 k.s2] at h
    rcases h with ⟨q2, rfl, rfl⟩ | ⟨q2, e2, rfl, rfl⟩ | ⟨q2, e2, b2, rfl, rfl⟩ | ⟨q2, e2, b2, rfl, it2, mv2, rfl, hit⟩
    · exact absurd q2 q
    · exact absurd ((form_iff k.s2 k.s2 q).mpr e) e2
    · exact ⟨rfl, sim_of k⟩
    · exact absurd b b2
  · refine ⟨⟨_, rfl⟩, cw_of _ _ _ _ _ _ _ _ _ _ _ _ _ _ _, Ev.mono (ev_X12_copy U lf B F A se R O V al dr 2 2 (by decide) (by decide) H2.2.2.1 H2.2.2.1 k.s2.z k.s2.z k.s2.sz k.s2.sz i j n) ?_⟩
    intro v2 m1 h
    rw [lost_iff k.s2 k.s2] at h
    rcases h with ⟨q2, rfl, rfl⟩ | ⟨q2, e2, rfl, rfl⟩ | ⟨q2, e2, b2, rfl, rfl⟩ | ⟨q2, e2, b2, rfl, it2, mv2, rfl, hit⟩
    · exact absurd q2 q
    · exact absurd ((form_iff k.s2 k.s2 q).mpr e) e2
    · exact absurd b2 b
    · have z1 : H2.1 = 0 := Decidable.of_not_not fun z => q (Or.inl z)
      have z2 : H2.1 = 0 := Decidable.of_not_not fun z => q (Or.inr z)
      have hz1 := k.s2.z
      have hz2 := k.s2.z
      have r1 := cp_rng k.s2.z (fun z => b (Or.inl z))
      have r2 := cp_rng k.s2.z (fun z => b (Or.inr z))
      exact ⟨rfl, sim_of ⟨k.c47, k.c12, k.gi, k.ni, k.tt, k.crs, k.pin, k.ss, k.q0, k.q1, k.ok, k.s0.keep rfl rfl (fun m hm => (show it2 (60 * 0 + m) = U.2.2.1 (60 * 0 + m) by rw [hit, if_neg (by omega)])), k.s1.keep rfl rfl (fun m hm => (show it2 (60 * 1 + m) = U.2.2.1 (60 * 1 + m) by rw [hit, if_neg (by omega)])), HEq2.copy k.s2 k.s2 z1 z2 r1 r2 hit, k.s3.keep rfl rfl (fun m hm => (show it2 (60 * 3 + m) = U.2.2.1 (60 * 3 + m) by rw [hit, if_neg (by omega)]))⟩⟩
theorem ag_copy23 (i j n : Int32) : Agr isI MX11_copy MX12_copy [.int (nI 2), .int i, .int (nI 3), .int j, .int n] := by
  intro c m hs
  obtain ⟨t0, t1, G, N, T, C, D, P, S, H0, H1, H2, H3, ta, lf, U, B, F, A, se, R, O, V, al, dr, rfl, rfl, k⟩ := hs
  refine ⟨_, ev_copy23 t0 t1 G N T C D P S H0 H1 H2 H3 ta lf i j n k.s2.z k.s3.z, ?_⟩
  rintro v c1 (⟨q, rfl, rfl⟩ | ⟨q, e, rfl, rfl⟩ | ⟨q, e, b, rfl, rfl⟩ | ⟨q, e, b, rfl, rfl⟩)
  · refine ⟨⟨_, rfl⟩, cw_of _ _ _ _ _ _ _ _ _ _ _ _ _ _ _, Ev.mono (ev_X12_copy U lf B F A se R O V al dr 2 3 (by decide) (by decide) H2.2.2.1 H3.2.2.1 k.s2.z k.s3.z k.s2.sz k.s3.sz i j n) ?_⟩
    intro v2 m1 h
    rw [lost_iff k.s2 k.s3] at h
    rcases h with ⟨q2, rfl, rfl⟩ | ⟨q2, e2, rfl, rfl⟩ | ⟨q2, e2, b2, rfl, rfl⟩ | ⟨q2, e2, b2, rfl, it2, mv2, rfl, hit⟩
    · exact ⟨rfl, sim_of k⟩
    · exact absurd q q2
    · exact absurd q q2
    · exact absurd q q2
  · refine ⟨⟨_, rfl⟩, cw_of _ _ _ _ _ _ _ _ _ _ _ _ _ _ _, Ev.mono (ev_X12_copy U lf B F A se R O V al dr 2 3 (by decide) (by decide) H2.2.2.1 H3.2.2.1 k.s2.z k.s3.z k.s2.sz k.s3.sz i j n) ?_⟩
    intro v2 m1 h
    rw [lost_iff k.s2 k.s3] at h
    rcases h with ⟨q2, rfl, rfl⟩ | ⟨q2, e2, rfl, rfl⟩ | ⟨q2, e2, b2, rfl, rfl⟩ | ⟨q2, e2, b2, rfl, it2, mv2, rfl, hit⟩
    · exact absurd q2 q
    · exact ⟨rfl, sim_of k⟩
    · exact absurd ((form_iff k.s2 k.s3 q).mp e2) e
    · exact absurd ((form_iff k.s2 k.s3 q).mp e2) e
  · refine ⟨⟨_, rfl⟩, cw_of _ _ _ _ _ _ _ _ _ _ _ _ _ _ _, Ev.mono (ev_X12_copy U lf B F A se R O V al dr 2 3 (by decide) (by decide) H2.2.2.1 H3.2.2.1 k.s2.z k.s3.z k.s2.sz k.s3.sz i j n) ?_⟩
    intro v2 m1 h
    rw [lost_iff k.s2 k.s3] at h
    rcases h with ⟨q2, rfl, rfl⟩ | ⟨q2, e2, rfl, rfl⟩ | ⟨q2, e2, b2, rfl, rfl⟩ | ⟨q2, e2, b2, rfl, it2, mv2, rfl, hit⟩
    · exact absurd q2 q
    · exact absurd ((form_iff k.s2 k.s3 q).mpr e) e2
    · exact ⟨rfl, sim_of k⟩
    · exact absurd b b2
  · refine ⟨⟨_, rfl⟩, cw_of _ _ _ _ _ _ _ _ _ _ _ _ _ _ _, Ev.mono (ev_X12_copy U lf B F A se R O V al dr 2 3 (by decide) (by decide) H2.2.2.1 H3.2.2.1 k.s2.z k.s3.z k.s2.sz k.s3.sz i j n) ?_⟩
    intro v2 m1 h
    rw [lost_iff k.s2 k.s3] at h
    rcases h with ⟨q2, rfl, rfl⟩ | ⟨q2, e2, rfl, rfl⟩ | ⟨q2, e2, b2, rfl, rfl⟩ | ⟨q2, e2, b2, rfl, it2, mv2, rfl, hit⟩
    · exact absurd q2 q
    · exact absurd ((form_iff k.s2 k.s3 q).mpr e) e2
    · exact absurd b2 b
    · have z1 : H2.1 = 0 := Decidable.of_not_not fun z => q (Or.inl z)
      have z2 : H3.1 = 0 := Decidable.of_not_not fun z => q (Or.inr z)
      have hz1 := k.s2.z
      have hz2 := k.s3.z
      have r1 := cp_rng k.s2.z (fun z => b (Or.inl z))
      have r2 := cp_rng k.s3.z (fun z => b (Or.inr z))
      exact ⟨rfl, sim_of ⟨k.c47, k.c12, k.gi, k.ni, k.tt, k.crs, k.pin, k.ss, k.q0, k.q1, k.ok, k.s0.keep rfl rfl (fun m hm => (show it2 (60 * 0 + m) = U.2.2.1 (60 * 0 + m) by rw [hit, if_neg (by omega)])), k.s1.keep rfl rfl (fun m hm => (show it2 (60 * 1 + m) = U.2.2.1 (60 * 1 + m) by rw [hit, if_neg (by omega)])), k.s2.keep rfl rfl (fun m hm => (show it2 (60 * 2 + m) = U.2.2.1 (60 * 2 + m) by rw [hit, if_neg (by omega)])), HEq2.copy k.s2 k.s3 z1 z2 r1 r2 hit⟩⟩
theorem ag_copy30 (i j n : Int32) : Agr isI MX11_copy MX12_copy [.int (nI 3), .int i, .int (nI 0), .int j, .int n] := by
  intro c m hs
  obtain ⟨t0, t1, G, N, T, C, D, P, S, H0, H1, H2, H3, ta, lf, U, B, F, A, se, R, O, V, al, dr, rfl, rfl, k⟩ := hs
  refine ⟨_, ev_copy30 t0 t1 G N T C D P S H0 H1 H2 H3 ta lf i j n k.s3.z k.s0.z, ?_⟩
  rintro v c1 (⟨q, rfl, rfl⟩ | ⟨q, e, rfl, rfl⟩ | ⟨q, e, b, rfl, rfl⟩ | ⟨q, e, b, rfl, rfl⟩)
  · refine ⟨⟨_, rfl⟩, cw_of _ _ _ _ _ _ _ _ _ _ _ _ _ _ _, Ev.mono (ev_X12_copy U lf B F A se R O V al dr 3 0 (by decide) (by decide) H3.2.2.1 H0.2.2.1 k.s3.z k.s0.z k.s3.sz k.s0.sz i j n) ?_⟩
    intro v2 m1 h
    rw [lost_iff k.s3 k.s0] at h
    rcases h with ⟨q2, rfl, rfl⟩ | ⟨q2, e2, rfl, rfl⟩ | ⟨q2, e2, b2, rfl, rfl⟩ | ⟨q2, e2, b2, rfl, it2, mv2, rfl, hit⟩
    · exact ⟨rfl, sim_of k⟩
    · exact absurd q q2
    · exact absurd q q2
    · exact absurd q q2
  · refine ⟨⟨_, rfl⟩, cw_of _ _ _ _ _ _ _ _ _ _ _ _ _ _ _, Ev.mono (ev_X12_copy U lf B F A se R O V al dr 3 0 (by decide) (by decide) H3.2.2.1 H0.2.2.1 k.s3.z k.s0.z k.s3.sz k.s0.sz i j n) ?_⟩
    intro v2 m1 h
    rw [lost_iff k.s3 k.s0] at h
    rcases h with ⟨q2, rfl, rfl⟩ | ⟨q2, e2, rfl, rfl⟩ | ⟨q2, e2, b2, rfl, rfl⟩ | ⟨q2, e2, b2, rfl, it2, mv2, rfl, hit⟩
    · exact absurd q2 q
    · exact ⟨rfl, sim_of k⟩
    · exact absurd ((form_iff k.s3 k.s0 q).mp e2) e
    · exact absurd ((form_iff k.s3 k.s0 q).mp e2) e
  · refine ⟨⟨_, rfl⟩, cw_of _ _ _ _ _ _ _ _ _ _ _ _ _ _ _, Ev.mono (ev_X12_copy U lf B F A se R O V al dr 3 0 (by decide) (by decide) H3.2.2.1 H0.2.2.1 k.s3.z k.s0.z k.s3.sz k.s0.sz i j n) ?_⟩
    intro v2 m1 h
    rw [lost_iff k.s3 k.s0] at h
    rcases h with ⟨q2, rfl, rfl⟩ | ⟨q2, e2, rfl, rfl⟩ | ⟨q2, e2, b2, rfl, rfl⟩ | ⟨q2, e2, b2, rfl, it2, mv2, rfl, hit⟩
    · exact absurd q2 q
    · exact absurd ((form_iff k.s3 k.s0 q).mpr e) e2
    · exact ⟨rfl, sim_of k⟩
    · exact absurd b b2
  · refine ⟨⟨_, rfl⟩, cw_of _ _ _ _ _ _ _ _ _ _ _ _ _ _ _, Ev.mono (ev_X12_copy U lf B F A se R O V al dr 3 0 (by decide) (by decide) H3.2.2.1 H0.2.2.1 k.s3.z k.s0.z k.s3.sz k.s0.sz i j n) ?_⟩
    intro v2 m1 h
    rw [lost_iff k.s3 k.s0] at h
    rcases h with ⟨q2, rfl, rfl⟩ | ⟨q2, e2, rfl, rfl⟩ | ⟨q2, e2, b2, rfl, rfl⟩ | ⟨q2, e2, b2, rfl, it2, mv2, rfl, hit⟩
    · exact absurd q2 q
    · exact absurd ((form_iff k.s3 k.s0 q).mpr e) e2
    · exact absurd b2 b
    · have z1 : H3.1 = 0 := Decidable.of_not_not fun z => q (Or.inl z)
      have z2 : H0.1 = 0 := Decidable.of_not_not fun z => q (Or.inr z)
      have hz1 := k.s3.z
      have hz2 := k.s0.z
      have r1 := cp_rng k.s3.z (fun z => b (Or.inl z))
      have r2 := cp_rng k.s0.z (fun z => b (Or.inr z))
      exact ⟨rfl, sim_of ⟨k.c47, k.c12, k.gi, k.ni, k.tt, k.crs, k.pin, k.ss, k.q0, k.q1, k.ok, HEq2.copy k.s3 k.s0 z1 z2 r1 r2 hit, k.s1.keep rfl rfl (fun m hm => (show it2 (60 * 1 + m) = U.2.2.1 (60 * 1 + m) by rw [hit, if_neg (by omega)])), k.s2.keep rfl rfl (fun m hm => (show it2 (60 * 2 + m) = U.2.2.1 (60 * 2 + m) by rw [hit, if_neg (by omega)])), k.s3.keep rfl rfl (fun m hm => (show it2 (60 * 3 + m) = U.2.2.1 (60 * 3 + m) by rw [hit, if_neg (by omega)]))⟩⟩
theorem ag_copy31 (i j n : Int32) : Agr isI MX11_copy MX12_copy [.int (nI 3), .int i, .int (nI 1), .int j, .int n] := by
  intro c m hs
  obtain ⟨t0, t1, G, N, T, C, D, P, S, H0, H1, H2, H3, ta, lf, U, B, F, A, se, R, O, V, al, dr, rfl, rfl, k⟩ := hs
  refine ⟨_, ev_copy31 t0 t1 G N T C D P S H0 H1 H2 H3 ta lf i j n k.s3.z k.s1.z, ?_⟩
  rintro v c1 (⟨q, rfl, rfl⟩ | ⟨q, e, rfl, rfl⟩ | ⟨q, e, b, rfl, rfl⟩ | ⟨q, e, b, rfl, rfl⟩)
  · refine ⟨⟨_, rfl⟩, cw_of _ _ _ _ _ _ _ _ _ _ _ _ _ _ _, Ev.mono (ev_X12_copy U lf B F A se R O V al dr 3 1 (by decide) (by decide) H3.2.2.1 H1.2.2.1 k.s3.z k.s1.z k.s3.sz k.s1.sz i j n) ?_⟩
    intro v2 m1 h
    rw [lost_iff k.s3 k.s1] at h
    rcases h with ⟨q2, rfl, rfl⟩ | ⟨q2, e2, rfl, rfl⟩ | ⟨q2, e2, b2, rfl, rfl⟩ | ⟨q2, e2, b2, rfl, it2, mv2, rfl, hit⟩
    · exact ⟨rfl, sim_of k⟩
    · exact absurd q q2
    · exact absurd q q2
    · exact absurd q q2
  · refine ⟨⟨_, rfl⟩, cw_of _ _ _ _ _ _ _ _ _ _ _ _ _ _ _, Ev.mono (ev_X12_copy U lf B F A se R O V al dr 3 1 (by decide) (by decide) H3.2.2.1 H1.2.2.1 k.s3.z k.s1.z k.s3.sz k.s1.sz i j n) ?_⟩
    intro v2 m1 h
    rw [lost_iff k.s3 k.s1] at h
    rcases h with ⟨q2, rfl, rfl⟩ | ⟨q2, e2, rfl, rfl⟩ | ⟨q2, e2, b2, rfl, rfl⟩ | ⟨q2, e2, b2, rfl, it2, mv2, rfl, hit⟩
    · exact absurd q2 q
    · exact ⟨rfl, sim_of k⟩
    · exact absurd ((form_iff k.s3 k.s1 q).mp e2) e
    · exact absurd ((form_iff k.s3 k.s1 q).mp e2) e
  · refine ⟨⟨_, rfl⟩, cw_of _ _ _ _ _ _ _ _ _ _ _ _ _ _ _, Ev.mono (ev_X12_copy U lf B F A se R O V al dr 3 1 (by decide) (by decide) H3.2.2.1 H1.2.2.1 k.s3.z k.s1.z k.s3.sz k.s1.sz i j n) ?_⟩
    intro v2 m1 h
    rw [lost_iff k.s3 k.s1] at h
    rcases h with ⟨q2, rfl, rfl⟩ | ⟨q2, e2, rfl, rfl⟩ | ⟨q2, e2, b2, rfl, rfl⟩ | ⟨q2, e2, b2, rfl, it2, mv2, rfl, hit⟩
    · exact absurd q2 q
    · exact absurd ((form_iff k.s3 k.s1 q).mpr e) e2
    · exact ⟨rfl, sim_of k⟩
    · exact absurd b b2
  · refine ⟨⟨_, rfl⟩, cw_of _ _ _ _ _ _ _ _ _ _ _ _ _ _ _, Ev.mono (ev_X12_copy U lf B F A se R O V al dr 3 1 (by decide) (by decide) H3.2.2.1 H1.2.2.1 k.s3.z k.s1.z k.s3.sz k.s1.sz i j n) ?_⟩
    intro v2 m1 h
    rw [lost_iff k.s3 k.s1] at h
    rcases h with ⟨q2, rfl, rfl⟩ | ⟨q2, e2, rfl, rfl⟩ | ⟨q2, e2, b2, rfl, rfl⟩ | ⟨q2, e2, b2, rfl, it2, mv2, rfl, hit⟩
    · exact absurd q2 q
    · exact absurd ((form_iff k.s3 k.s1 q).mpr e) e2
    · exact absurd b2 b
    · have z1 : H3.1 = 0 := Decidable.of_not_not fun z => q (Or.inl z)
      have z2 : H1.1 = 0 := Decidable.of_not_not fun z => q (Or.inr z)
      have hz1 := k.s3.z
      have hz2 := k.s1.z
      have r1 := cp_rng k.s3.z (fun z => b (Or.inl z))
      have r2 := cp_rng k.s1.z (fun z => b (Or.inr z))
      exact ⟨rfl, sim_of ⟨k.c47, k.c12, k.gi, k.ni, k.tt, k.crs, k.pin, k.ss, k.q0, k.q1, k.ok, k.s0.keep rfl rfl (fun m hm => (show it2 (60 * 0 + m) = U.2.2.1 (60 * 0 + m) by rw [hit, if_neg (by omega)])), HEq2.copy k.s3 k.s1 z1 z2 r1 r2 hit, k.s2.keep rfl rfl (fun m hm => (show it2 (60 * 2 + m) = U.2.2.1 (60 * 2 + m) by rw [hit, if_neg (by omega)])), k.s3.keep rfl rfl (fun m hm => (show it2 (60 * 3 + m) = U.2.2.1 (60 * 3 + m) by rw [hit, if_neg (by omega)]))⟩⟩
theorem ag_copy32 (i j n : Int32) : Agr isI MX11_copy MX12_copy [.int (nI 3), .int i, .int (nI 2), .int j, .int n] := by
  intro c m hs
  obtain ⟨t0, t1, G, N, T, C, D, P, S, H0, H1, H2, H3, ta, lf, U, B, F, A, se, R, O, V, al, dr, rfl, rfl, k⟩ := hs
  refine ⟨_, ev_copy32 t0 t1 G N T C D P S H0 H1 H2 H3 ta lf i j n k.s3.z k.s2.z, ?_⟩
  rintro v c1 (⟨q, rfl, rfl⟩ | ⟨q, e, rfl, rfl⟩ | ⟨q, e, b, rfl, rfl⟩ | ⟨q, e, b, rfl, rfl⟩)
  · refine ⟨⟨_, rfl⟩, cw_of _ _ _ _ _ _ _ _ _ _ _ _ _ _ _, Ev.mono (ev_X12_copy U lf B F A se R O V al dr 3 2 (by decide) (by decide) H3.2.2.1 H2.2.2.1 k.s3.z k.s2.z k.s3.sz k.s2.sz i j n) ?_⟩
    intro v2 m1 h
    rw [lost_iff k.s3 k.s2] at h
    rcases h with ⟨q2, rfl, rfl⟩ | ⟨q2, e2, rfl, rfl⟩ | ⟨q2, e2, b2, rfl, rfl⟩ | ⟨q2, e2, b2, rfl, it2, mv2, rfl, hit⟩
    · exact ⟨rfl, sim_of k⟩
    · exact absurd q q2
    · exact absurd q q2
    · exact absurd q q2
  · refine ⟨⟨_, rfl⟩, cw_of _ _ _ _ _ _ _ _ _ _ _ _ _ _ _, Ev.mono (ev_X12_copy U lf B F A se R O V al dr 3 2 (by decide) (by decide) H3.2.2.1 H2.2.2.1 k.s3.z k.s2.z k.s3.sz k.s2.sz i j n) ?_⟩
    intro v2 m1 h
    rw [lost_iff k.s3 k.s2] at h
    rcases h with ⟨q2, rfl, rfl⟩ | ⟨q2, e2, rfl, rfl⟩ | ⟨q2, e2, b2, rfl, rfl⟩ | ⟨q2, e2, b2, rfl, it2, mv2, rfl, hit⟩
    · exact absurd q2 q
    · exact ⟨rfl, sim_of k⟩
    · exact absurd ((form_iff k.s3 k.s2 q).mp e2) e
    · exact absurd ((form_iff k.s3 k.s2 q).mp e2) e
  · refine ⟨⟨_, rfl⟩, cw_of _ _ _ _ _ _ _ _ _ _ _ _ _ _ _, Ev.mono (ev_X12_copy U lf B F A se R O V al dr 3 2 (by decide) (by decide) H3.2.2.1 H2.2.2.1 k.s3.z k.s2.z k.s3.sz k.s2.sz i j n) ?_⟩
    intro v2 m1 h
    rw [lost_iff k.s3 k.s2] at h
    rcases h with ⟨q2, rfl, rfl⟩ | ⟨q2, e2, rfl, rfl⟩ | ⟨q2, e2, b2, rfl, rfl⟩ | ⟨q2, e2, b2, rfl, it2, mv2, rfl, hit⟩
    · exact absurd q2 q
    · exact absurd ((form_iff k.s3 k.s2 q).mpr e) e2
    · exact ⟨rfl, sim_of k⟩
    · exact absurd b b2
  · refine ⟨⟨_, rfl⟩, cw_of _ _ _ _ _ _ _ _ _ _ _ _ _ _ _, Ev.mono (ev_X12_copy U lf B F A se R O V al dr 3 2 (by decide) (by decide) H3.2.2.1 H2.2.2.1 k.s3.z k.s2.z k.s3.sz k.s2.sz i j n) ?_⟩
    intro v2 m1 h
    rw [lost_iff k.s3 k.s2] at h
    rcases h with ⟨q2, rfl, rfl⟩ | ⟨q2, e2, rfl, rfl⟩ | ⟨q2, e2, b2, rfl, rfl⟩ | ⟨q2, e2, b2, rfl, it2, mv2, rfl, hit⟩
    · exact absurd q2 q
    · exact absurd ((form_iff k.s3 k.s2 q).mpr e) e2
    · exact absurd b2 b
    · have z1 : H3.1 = 0 := Decidable.of_not_not fun z => q (Or.inl z)
      have z2 : H2.1 = 0 := Decidable.of_not_not fun z => q (Or.inr z)
      have hz1 := k.s3.z
      have hz2 := k.s2.z
      have r1 := cp_rng k.s3.z (fun z => b (Or.inl z))
      have r2 := cp_rng k.s2.z (fun z => b (Or.inr z))
      exact ⟨rfl, sim_of ⟨k.c47, k.c12, k.gi, k.ni, k.tt, k.crs, k.pin, k.ss, k.q0, k.q1, k.ok, k.s0.keep rfl rfl (fun m hm => (show it2 (60 * 0 + m) = U.2.2.1 (60 * 0 + m) by rw [hit, if_neg (by omega)])), k.s1.keep rfl rfl (fun m hm => (show it2 (60 * 1 + m) = U.2.2.1 (60 * 1 + m) by rw [hit, if_neg (by omega)])), HEq2.copy k.s3 k.s2 z1 z2 r1 r2 hit, k.s3.keep rfl rfl (fun m hm => (show it2 (60 * 3 + m) = U.2.2.1 (60 * 3 + m) by rw [hit, if_neg (by omega)]))⟩⟩
theorem ag_copy33 (i j n : Int32) : Agr isI MX11_copy MX12_copy [.int (nI 3), .int i, .int (nI 3), .int j, .int n] := by
  intro c m hs
  obtain ⟨t0, t1, G, N, T, C, D, P, S, H0, H1, H2, H3, ta, lf, U, B, F, A, se, R, O, V, al, dr, rfl, rfl, k⟩ := hs
  refine ⟨_, ev_copy33 t0 t1 G N T C D P S H0 H1 H2 H3 ta lf i j n k.s3.z k.s3.z, ?_⟩
  rintro v c1 (⟨q, rfl, rfl⟩ | ⟨q, e, rfl, rfl⟩ | ⟨q, e, b, rfl, rfl⟩ | ⟨q, e, b, rfl, rfl⟩)
  · refine ⟨⟨_, rfl⟩, cw_of _ _ _ _ _ _ _ _ _ _ _ _ _ _ _, Ev.mono (ev_X12_copy U lf B F A se R O V al dr 3 3 (by decide) (by decide) H3.2.2.1 H3.2.2.1 k.s3.z k.s3.z k.s3.sz k.s3.sz i j n) ?_⟩
    intro v2 m1 h
    rw [lost_iff k.s3 k.s3] at h
    rcases h with ⟨q2, rfl, rfl⟩ | ⟨q2, e2, rfl, rfl⟩ | ⟨q2, e2, b2, rfl, rfl⟩ | ⟨q2, e2, b2, rfl, it2, mv2, rfl, hit⟩
    · exact ⟨rfl, sim_of k⟩
    · exact absurd q q2
    · exact absurd q q2
    · exact absurd q q2
  · refine ⟨⟨_, rfl⟩, cw_of _ _ _ _ _ _ _ _ _ _ _ _ _ _ _, Ev.mono (ev_X12_copy U lf B F A se R O V al dr 3 3 (by decide) (by decide) H3.2.2.1 H3.2.2.1 k.s3.z k.s3.z k.s3.sz k.s3.sz i j n) ?_⟩
    intro v2 m1 h
    rw [lost_iff k.s3 k.s3] at h
    rcases h with ⟨q2, rfl, rfl⟩ | ⟨q2, e2, rfl, rfl⟩ | ⟨q2, e2, b2, rfl, rfl⟩ | ⟨q2, e2, b2, rfl, it2, mv2, rfl, hit⟩
    · exact absurd q2 q
    · exact ⟨rfl, sim_of k⟩
    · exact absurd ((form_iff k.s3 k.s3 q).mp e2) e
    · exact absurd ((form_iff k.s3 k.s3 q).mp e2) e
  · refine ⟨⟨_, rfl⟩, cw_of _ _ _ _ _ _ _ _ _ _ _ _ _ _ _, Ev.mono (ev_X12_copy U lf B F A se R O V al dr 3 3 (by decide) (by decide) H3.2.2.1 H3.2.2.1 k.s3.z k.s3.z k.s3.sz k.s3.sz i j n) ?_⟩
    intro v2 m1 h
    rw [lost_iff k.s3 k.s3] at h
    rcases h with ⟨q2, rfl, rfl⟩ | ⟨q2, e2, rfl, rfl⟩ | ⟨q2, e2, b2, rfl, rfl⟩ | ⟨q2, e2, b2, rfl, it2, mv2, rfl, hit⟩
    · exact absurd q2 q
    · exact absurd ((form_iff k.s3 k.s3 q).mpr e) e2
    · exact ⟨rfl, sim_of k⟩
    · exact absurd b b2
  · refine ⟨⟨_, rfl⟩, cw_of _ _ _ _ _ _ _ _ _ _ _ _ _ _ _, Ev.mono (ev_X12_copy U lf B F A se R O V al dr 3 3 (by decide) (by decide) H3.2.2.1 H3.2.2.1 k.s3.z k.s3.z k.s3.sz k.s3.sz i j n) ?_⟩
    intro v2 m1 h
    rw [lost_iff k.s3 k.s3] at h
    rcases h with ⟨q2, rfl, rfl⟩ | ⟨q2, e2, rfl, rfl⟩ | ⟨q2, e2, b2, rfl, rfl⟩ | ⟨q2, e2, b2, rfl, it2, mv2, rfl, hit⟩
    · exact absurd q2 q
    · exact absurd ((form_iff k.s3 k.s3 q).mpr e) e2
    · exact absurd b2 b
    · have z1 : H3.1 = 0 := Decidable.of_not_not fun z => q (Or.inl z)
      have z2 : H3.1 = 0 := Decidable.of_not_not fun z => q (Or.inr z)
      have hz1 := k.s3.z
      have hz2 := k.s3.z
      have r1 := cp_rng k.s3.z (fun z => b (Or.inl z))
      have r2 := cp_rng k.s3.z (fun z => b (Or.inr z))
      exact ⟨rfl, sim_of ⟨k.c47, k.c12, k.gi, k.ni, k.tt, k.crs, k.pin, k.ss, k.q0, k.q1, k.ok, k.s0.keep rfl rfl (fun m hm => (show it2 (60 * 0 + m) = U.2.2.1 (60 * 0 + m) by rw [hit, if_neg (by omega)])), k.s1.keep rfl rfl (fun m hm => (show it2 (60 * 1 + m) = U.2.2.1 (60 * 1 + m) by rw [hit, if_neg (by omega)])), k.s2.keep rfl rfl (fun m hm => (show it2 (60 * 2 + m) = U.2.2.1 (60 * 2 + m) by rw [hit, if_neg (by omega)])), HEq2.copy k.s3 k.s3 z1 z2 r1 r2 hit⟩⟩
theorem ag_copy (x i y j n : Int32) : Agr isI MX11_copy MX12_copy [.int x, .int i, .int y, .int j, .int n] := by
  by_cases q : (x < 0 ∨ 4 ≤ x) ∨ (y < 0 ∨ 4 ≤ y)
  · intro c m hs
    obtain ⟨t0, t1, G, N, T, C, D, P, S, H0, H1, H2, H3, ta, lf, U, B, F, A, se, R, O, V, al, dr, rfl, rfl, k⟩ := hs
    refine ⟨_, ev_copy_bad t0 t1 G N T C D P S H0 H1 H2 H3 ta lf x i y j n q, ?_⟩
    rintro v c1 ⟨rfl, rfl⟩
    refine ⟨⟨_, rfl⟩, cw_of _ _ _ _ _ _ _ _ _ _ _ _ _ _ _, Ev.mono (ev_mcopy_bad U lf B F A se R O V al dr x i y j n (q.elim (fun z => Or.inl ((sh_iff x).mpr z)) (fun z => Or.inr ((sh_iff y).mpr z)))) ?_⟩
    rintro v2 m1 ⟨rfl, rfl⟩
    exact ⟨rfl, sim_of k⟩
  · obtain ⟨h1, h2⟩ := in_range (x := x) (n := 4) (fun z => q (Or.inl (Or.inl z))) (fun z => q (Or.inl (Or.inr z))) (by decide)
    obtain ⟨h3, h4⟩ := in_range (x := y) (n := 4) (fun z => q (Or.inr (Or.inl z))) (fun z => q (Or.inr (Or.inr z))) (by decide)
    rw [h1, h3]
    generalize x.toNatClampNeg = xn at h2 ⊢
    generalize y.toNatClampNeg = yn at h4 ⊢
    match xn, yn, h2, h4 with
    | 0, 0, _, _ => exact ag_copy00 i j n
    | 0, 1, _, _ => exact ag_copy01 i j n
    | 0, 2, _, _ => exact ag_copy02 i j n
    | 0, 3, _, _ => exact ag_copy03 i j n
    | 1, 0, _, _ => exact ag_copy10 i j n
    | 1, 1, _, _ => exact ag_copy11 i j n
    | 1, 2, _, _ => exact ag_copy12 i j n
    | 1, 3, _, _ => exact ag_copy13 i j n
    | 2, 0, _, _ => exact ag_copy20 i j n
    | 2, 1, _, _ => exact ag_copy21 i j n
    | 2, 2, _, _ => exact ag_copy22 i j n
    | 2, 3, _, _ => exact ag_copy23 i j n
    | 3, 0, _, _ => exact ag_copy30 i j n
    | 3, 1, _, _ => exact ag_copy31 i j n
    | 3, 2, _, _ => exact ag_copy32 i j n
    | 3, 3, _, _ => exact ag_copy33 i j n
    | xn + 4, yn, h, _ => exact absurd h (by omega)
    | xn, yn + 4, _, h => exact absurd h (by omega)
