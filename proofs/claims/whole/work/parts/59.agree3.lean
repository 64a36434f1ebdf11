theorem fm_iff (g : Int32) : (g < 0 ∨ 2 < g) ↔ (g < 0 ∨ 3 ≤ g) := or_congr Iff.rfl (lt3 g)
theorem sh_iff (x : Int32) : (x < 0 ∨ 3 < x) ↔ (x < 0 ∨ 4 ≤ x) := or_congr Iff.rfl (lt4 x)
theorem fx_eq {U : TU} {s : Nat} {H : TH} (h : HEq2 U s H) (g i : Int32) : (if U.1 s < 0 then 1 else if ¬ U.1 s = g then 3 else if i < 0 ∨ ¬ i < nI H.2.2.1 then 2 else (0 : Int32)) = (if ¬ H.1 = 0 then 1 else if ¬ H.2.1 = g then 3 else if i < 0 ∨ ¬ i < nI H.2.2.1 then 2 else (0 : Int32)) := by
  by_cases q : U.1 s < 0
  · rw [if_pos q, if_pos (h.lost.mpr q)]
  · have q2 : ¬ ¬ H.1 = 0 := fun z => q (h.lost.mp z)
    rw [if_neg q, if_neg q2, h.form (Decidable.of_not_not q2)]
theorem fx0 {a f g i z : Int32} (h : (if ¬ a = 0 then 1 else if ¬ f = g then 3 else if i < 0 ∨ ¬ i < z then 2 else (0 : Int32)) = 0) : a = 0 ∧ f = g ∧ ¬ i < 0 ∧ i < z := by
  by_cases h1 : ¬ a = 0
  · rw [if_pos h1] at h
    exact absurd h (by decide)
  · rw [if_neg h1] at h
    by_cases h2 : ¬ f = g
    · rw [if_pos h2] at h
      exact absurd h (by decide)
    · rw [if_neg h2] at h
      by_cases h3 : i < 0 ∨ ¬ i < z
      · rw [if_pos h3] at h
        exact absurd h (by decide)
      · exact ⟨Decidable.of_not_not h1, Decidable.of_not_not h2, fun q => h3 (Or.inl q), Decidable.of_not_not fun q => h3 (Or.inr q)⟩
theorem HEq2.lose {U : TU} {s : Nat} {H : TH} (h : HEq2 U s H) : HEq2 (upd U.1 s (-1), U.2.1, U.2.2.1, U.2.2.2) s (1, H.2.1, H.2.2.1, H.2.2.2) := ⟨h.1, h.2.1, Or.inl ⟨by show ¬ (1 : Int32) = 0; decide, by show upd U.1 s (-1) s < 0; rw [pk_us]; decide⟩⟩
theorem HEq2.sheet {U : TU} {s : Nat} {g n : Int32} {it2 mv f2 : AF} (hn : ¬ n < 0) (hn2 : n ≤ 60) (hg : ¬ g < 0) (h1 : ∀ i, i < n.toNatClampNeg → it2 (60 * s + i) = 0) (h2 : ∀ i, i < 60 → f2 i = 0) : HEq2 (upd U.1 s g, upd U.2.1 s n, it2, mv) s (0, g, n.toNatClampNeg, f2) := by
  obtain ⟨e1, e2⟩ := in_range (x := n) (n := 61) hn (fun q => absurd hn2 (Int32.not_le.mpr (show (60 : Int32) < n from lt_succ (n := 60) (by decide) q))) (by decide)
  refine ⟨by show n.toNatClampNeg ≤ 60; omega, by show upd U.2.1 s n s = _; rw [pk_us]; exact e1, Or.inr ⟨rfl, by show ¬ upd U.1 s g s < 0; rw [pk_us]; exact hg, pk_us, fun i hi => ?_⟩⟩
  have hi : i < n.toNatClampNeg := hi
  exact (h1 i hi).trans (h2 i (by omega)).symm
theorem HEq2.lay {U : TU} {s : Nat} {H : TH} {j : Nat} {x : Int32} (h : HEq2 U s H) : HEq2 (U.1, U.2.1, upd U.2.2.1 (60 * s + j) x, U.2.2.2) s (H.1, H.2.1, H.2.2.1, upd H.2.2.2 j x) := by
  obtain ⟨a, b, c⟩ := h
  refine ⟨a, b, ?_⟩
  rcases c with c | ⟨c1, c2, c3, c4⟩
  · exact Or.inl c
  · refine Or.inr ⟨c1, c2, c3, fun i hi => ?_⟩
    show upd U.2.2.1 (60 * s + j) x (60 * s + i) = upd H.2.2.2 j x i
    by_cases e : i = j
    · subst e; rw [pk_us, pk_us]
    · rw [pk_un (by omega), pk_un e]
      exact c4 i hi
def sjP (S : TS) : Prop := ∀ k, k < S.1 → ∃ j, j < 8 ∧ S.2.1 k = nI j
theorem rdS_cg {r1 r2 : Nat → Int32} {z : Nat} (hr : ∀ i, i < z → r1 i = r2 i) : ∀ (d i : Nat) (S S2 : TS), SEq S S2 → (rdS r1 z d i S).1 = (rdS r2 z d i S2).1 ∧ SEq (rdS r1 z d i S).2 (rdS r2 z d i S2).2
  | 0, i, S, S2, h => ⟨rfl, h⟩
  | d + 1, i, S, S2, h => by
    rw [rdS, rdS, ← h.1]
    by_cases q : ¬ 2 * i + 1 < z
    · rw [if_pos (Or.inl q), if_pos (Or.inl q)]
      exact ⟨rfl, h⟩
    · have q := Decidable.of_not_not q
      rw [hr (2 * i) (by omega), hr (2 * i + 1) q]
      by_cases q2 : ¬ 2 * i + 1 < z ∨ (r2 (2 * i) < 0 ∨ 8 ≤ r2 (2 * i) ∨ r2 (2 * i + 1) < 0 ∨ 5 ≤ r2 (2 * i + 1)) ∨ ¬ S.1 < 8
      · rw [if_pos q2, if_pos q2]
        exact ⟨rfl, h⟩
      · rw [if_neg q2, if_neg q2]
        have h2 := seq_add h (r2 (2 * i)) (r2 (2 * i + 1))
        rw [← h.1] at h2
        exact rdS_cg hr d (i + 1) _ _ h2
theorem rdS_ok {r1 : Nat → Int32} {z : Nat} : ∀ (d i : Nat) (S : TS), S.1 ≤ 8 → sjP S → (rdS r1 z d i S).2.1 ≤ 8 ∧ sjP (rdS r1 z d i S).2
  | 0, i, S, h, h2 => ⟨h, h2⟩
  | d + 1, i, S, h, h2 => by
    rw [rdS]
    by_cases q2 : ¬ 2 * i + 1 < z ∨ (r1 (2 * i) < 0 ∨ 8 ≤ r1 (2 * i) ∨ r1 (2 * i + 1) < 0 ∨ 5 ≤ r1 (2 * i + 1)) ∨ ¬ S.1 < 8
    · rw [if_pos q2]; exact ⟨h, h2⟩
    · rw [if_neg q2]
      have h8 : S.1 < 8 := Decidable.of_not_not fun z => q2 (Or.inr (Or.inr z))
      exact rdS_ok d (i + 1) _ (by show S.1 + 1 ≤ 8; omega) (sj_add h2 (fun z => q2 (Or.inr (Or.inl (Or.inl z)))) (fun z => q2 (Or.inr (Or.inl (Or.inr (Or.inl z))))))
theorem wrI_at (o : Nat) (form : Int32) (cm f : Nat → Int32) (j : Nat) : ∀ i, wrI o form cm f i j = if o ≤ j ∧ j < o + i then cutI form (cm (j - o)) else f j
  | 0 => by rw [if_neg (by omega)]; rfl
  | i + 1 => by
    show upd (wrI o form cm f i) (o + i) (cutI form (cm i)) j = _
    by_cases h : j = o + i
    · subst h
      rw [pk_us, if_pos (by omega), Nat.add_sub_cancel_left]
    · rw [pk_un h, wrI_at o form cm f j i]
      by_cases h2 : o ≤ j ∧ j < o + i
      · rw [if_pos h2, if_pos (by omega)]
      · rw [if_neg h2, if_neg (by omega)]
theorem wrR_at (form : Int32) (cm f : Nat → Int32) (j : Nat) : ∀ i, wrR form cm f i j = if j < i then cutI form (cm j) else f j
  | 0 => by rw [if_neg (by omega)]; rfl
  | i + 1 => by
    show upd (wrR form cm f i) i (cutI form (cm i)) j = _
    by_cases h : j = i
    · subst h
      rw [pk_us, if_pos (by omega)]
    · rw [pk_un h, wrR_at form cm f j i]
      by_cases h2 : j < i
      · rw [if_pos h2, if_pos (by omega)]
      · rw [if_neg h2, if_neg (by omega)]
theorem HEq2.write {U : TU} {s : Nat} {H : TH} {c1 c2 : Nat → Int32} {n : Nat} (h : HEq2 U s H) (h0 : H.1 = 0) (hn : n ≤ H.2.2.1) (hc : ∀ i, i < n → c1 i = c2 i) : HEq2 (U.1, U.2.1, wrI (60 * s) (U.1 s) c1 U.2.2.1 n, U.2.2.2) s (H.1, H.2.1, H.2.2.1, wrR H.2.1 c2 H.2.2.2 n) := by
  have hf := h.form h0
  obtain ⟨a, b, c⟩ := h
  refine ⟨a, b, ?_⟩
  rcases c with c | ⟨c1', c2', c3, c4⟩
  · exact absurd h0 c.1
  · refine Or.inr ⟨c1', c2', c3, fun i hi => ?_⟩
    show wrI (60 * s) (U.1 s) c1 U.2.2.1 n (60 * s + i) = wrR H.2.1 c2 H.2.2.2 n i
    rw [wrI_at, wrR_at, hf]
    by_cases e : i < n
    · rw [if_pos (by omega), if_pos e, Nat.add_sub_cancel_left, hc i e]
    · rw [if_neg (by omega), if_neg e]
      exact c4 i hi
theorem ag_lose0 : Agr isI MX11_lose MX12_lose [.int (nI 0)] := by
  intro c m hs
  obtain ⟨t0, t1, G, N, T, C, D, P, S, H0, H1, H2, H3, ta, lf, U, B, F, A, se, R, O, V, al, dr, rfl, rfl, k⟩ := hs
  refine ⟨_, ev_lose0 t0 t1 G N T C D P S H0 H1 H2 H3 ta lf, ?_⟩
  rintro v c1 (⟨q, rfl, rfl⟩ | ⟨q, rfl, rfl⟩)
  · refine ⟨⟨_, rfl⟩, cw_of _ _ _ _ _ _ _ _ _ _ _ _ _ _ _, Ev.mono (ev_X12_lose U lf B F A se R O V al dr 0 (by decide)) ?_⟩
    rintro v2 m1 (⟨q2, rfl, rfl⟩ | ⟨q2, rfl, rfl⟩)
    · exact ⟨rfl, sim_of k⟩
    · exact absurd (k.s0.lost.mp q) q2
  · refine ⟨⟨_, rfl⟩, cw_of _ _ _ _ _ _ _ _ _ _ _ _ _ _ _, Ev.mono (ev_X12_lose U lf B F A se R O V al dr 0 (by decide)) ?_⟩
    rintro v2 m1 (⟨q2, rfl, rfl⟩ | ⟨q2, rfl, rfl⟩)
    · exact absurd q (k.s0.lost.mpr q2)
    · exact ⟨by rw [k.s0.sz], sim_of ⟨k.c47, k.c12, k.gi, k.ni, k.tt, k.crs, k.pin, k.ss, k.q0, k.q1, k.ok, k.s0.lose, k.s1.keep (show upd U.1 0 (-1) 1 = U.1 1 from pk_un (by decide)) rfl (fun i hi => rfl), k.s2.keep (show upd U.1 0 (-1) 2 = U.1 2 from pk_un (by decide)) rfl (fun i hi => rfl), k.s3.keep (show upd U.1 0 (-1) 3 = U.1 3 from pk_un (by decide)) rfl (fun i hi => rfl)⟩⟩
theorem ag_lose1 : Agr isI MX11_lose MX12_lose [.int (nI 1)] := by
  intro c m hs
  obtain ⟨t0, t1, G, N, T, C, D, P, S, H0, H1, H2, H3, ta, lf, U, B, F, A, se, R, O, V, al, dr, rfl, rfl, k⟩ := hs
  refine ⟨_, ev_lose1 t0 t1 G N T C D P S H0 H1 H2 H3 ta lf, ?_⟩
  rintro v c1 (⟨q, rfl, rfl⟩ | ⟨q, rfl, rfl⟩)
  · refine ⟨⟨_, rfl⟩, cw_of _ _ _ _ _ _ _ _ _ _ _ _ _ _ _, Ev.mono (ev_X12_lose U lf B F A se R O V al dr 1 (by decide)) ?_⟩
    rintro v2 m1 (⟨q2, rfl, rfl⟩ | ⟨q2, rfl, rfl⟩)
    · exact ⟨rfl, sim_of k⟩
    · exact absurd (k.s1.lost.mp q) q2
  · refine ⟨⟨_, rfl⟩, cw_of _ _ _ _ _ _ _ _ _ _ _ _ _ _ _, Ev.mono (ev_X12_lose U lf B F A se R O V al dr 1 (by decide)) ?_⟩
    rintro v2 m1 (⟨q2, rfl, rfl⟩ | ⟨q2, rfl, rfl⟩)
    · exact absurd q (k.s1.lost.mpr q2)
    · exact ⟨by rw [k.s1.sz], sim_of ⟨k.c47, k.c12, k.gi, k.ni, k.tt, k.crs, k.pin, k.ss, k.q0, k.q1, k.ok, k.s0.keep (show upd U.1 1 (-1) 0 = U.1 0 from pk_un (by decide)) rfl (fun i hi => rfl), k.s1.lose, k.s2.keep (show upd U.1 1 (-1) 2 = U.1 2 from pk_un (by decide)) rfl (fun i hi => rfl), k.s3.keep (show upd U.1 1 (-1) 3 = U.1 3 from pk_un (by decide)) rfl (fun i hi => rfl)⟩⟩
theorem ag_lose2 : Agr isI MX11_lose MX12_lose [.int (nI 2)] := by
  intro c m hs
  obtain ⟨t0, t1, G, N, T, C, D, P, S, H0, H1, H2, H3, ta, lf, U, B, F, A, se, R, O, V, al, dr, rfl, rfl, k⟩ := hs
  refine ⟨_, ev_lose2 t0 t1 G N T C D P S H0 H1 H2 H3 ta lf, ?_⟩
  rintro v c1 (⟨q, rfl, rfl⟩ | ⟨q, rfl, rfl⟩)
  · refine ⟨⟨_, rfl⟩, cw_of _ _ _ _ _ _ _ _ _ _ _ _ _ _ _, Ev.mono (ev_X12_lose U lf B F A se R O V al dr 2 (by decide)) ?_⟩
    rintro v2 m1 (⟨q2, rfl, rfl⟩ | ⟨q2, rfl, rfl⟩)
    · exact ⟨rfl, sim_of k⟩
    · exact absurd (k.s2.lost.mp q) q2
  · refine ⟨⟨_, rfl⟩, cw_of _ _ _ _ _ _ _ _ _ _ _ _ _ _ _, Ev.mono (ev_X12_lose U lf B F A se R O V al dr 2 (by decide)) ?_⟩
    rintro v2 m1 (⟨q2, rfl, rfl⟩ | ⟨q2, rfl, rfl⟩)
    · exact absurd q (k.s2.lost.mpr q2)
    · exact ⟨by rw [k.s2.sz], sim_of ⟨k.c47, k.c12, k.gi, k.ni, k.tt, k.crs, k.pin, k.ss, k.q0, k.q1, k.ok, k.s0.keep (show upd U.1 2 (-1) 0 = U.1 0 from pk_un (by decide)) rfl (fun i hi => rfl), k.s1.keep (show upd U.1 2 (-1) 1 = U.1 1 from pk_un (by decide)) rfl (fun i hi => rfl), k.s2.lose, k.s3.keep (show upd U.1 2 (-1) 3 = U.1 3 from pk_un (by decide)) rfl (fun i hi => rfl)⟩⟩
theorem ag_lose3 : Agr isI MX11_lose MX12_lose [.int (nI 3)] := by
  intro c m hs
  obtain ⟨t0, t1, G, N, T, C, D, P, S, H0, H1, H2, H3, ta, lf, U, B, F, A, se, R, O, V, al, dr, rfl, rfl, k⟩ := hs
  refine ⟨_, ev_lose3 t0 t1 G N T C D P S H0 H1 H2 H3 ta lf, ?_⟩
  rintro v c1 (⟨q, rfl, rfl⟩ | ⟨q, rfl, rfl⟩)
  · refine ⟨⟨_, rfl⟩, cw_of _ _ _ _ _ _ _ _ _ _ _ _ _ _ _, Ev.mono (ev_X12_lose U lf B F A se R O V al dr 3 (by decide)) ?_⟩
    rintro v2 m1 (⟨q2, rfl, rfl⟩ | ⟨q2, rfl, rfl⟩)
    · exact ⟨rfl, sim_of k⟩
    · exact absurd (k.s3.lost.mp q) q2
  · refine ⟨⟨_, rfl⟩, cw_of _ _ _ _ _ _ _ _ _ _ _ _ _ _ _, Ev.mono (ev_X12_lose U lf B F A se R O V al dr 3 (by decide)) ?_⟩
    rintro v2 m1 (⟨q2, rfl, rfl⟩ | ⟨q2, rfl, rfl⟩)
    · exact absurd q (k.s3.lost.mpr q2)
    · exact ⟨by rw [k.s3.sz], sim_of ⟨k.c47, k.c12, k.gi, k.ni, k.tt, k.crs, k.pin, k.ss, k.q0, k.q1, k.ok, k.s0.keep (show upd U.1 3 (-1) 0 = U.1 0 from pk_un (by decide)) rfl (fun i hi => rfl), k.s1.keep (show upd U.1 3 (-1) 1 = U.1 1 from pk_un (by decide)) rfl (fun i hi => rfl), k.s2.keep (show upd U.1 3 (-1) 2 = U.1 2 from pk_un (by decide)) rfl (fun i hi => rfl), k.s3.lose⟩⟩
theorem ag_lose (x : Int32) : Agr isI MX11_lose MX12_lose [.int x] := by
  by_cases q : x < 0 ∨ 4 ≤ x
  · intro c m hs
    obtain ⟨t0, t1, G, N, T, C, D, P, S, H0, H1, H2, H3, ta, lf, U, B, F, A, se, R, O, V, al, dr, rfl, rfl, k⟩ := hs
    refine ⟨_, ev_lose_bad t0 t1 G N T C D P S H0 H1 H2 H3 ta lf x q, ?_⟩
    rintro v c1 ⟨rfl, rfl⟩
    refine ⟨⟨_, rfl⟩, cw_of _ _ _ _ _ _ _ _ _ _ _ _ _ _ _, Ev.mono (ev_mlose_bad U lf B F A se R O V al dr x ((sh_iff x).mpr q)) ?_⟩
    rintro v2 m1 ⟨rfl, rfl⟩
    exact ⟨rfl, sim_of k⟩
  · obtain ⟨h1, h2⟩ := in_range (x := x) (n := 4) (fun z => q (Or.inl z)) (fun z => q (Or.inr z)) (by decide)
    rw [h1]
    generalize x.toNatClampNeg = xn at h2 ⊢
    match xn, h2 with
    | 0, _ => exact ag_lose0
    | 1, _ => exact ag_lose1
    | 2, _ => exact ag_lose2
    | 3, _ => exact ag_lose3
    | xn + 4, h => exact absurd h (by omega)
theorem ag_sheet0 (g n : Int32) : Agr isI MX11_sheet MX12_sheet [.int (nI 0), .int g, .int n] := by
  intro c m hs
  obtain ⟨t0, t1, G, N, T, C, D, P, S, H0, H1, H2, H3, ta, lf, U, B, F, A, se, R, O, V, al, dr, rfl, rfl, k⟩ := hs
  refine ⟨_, ev_sheet0 t0 t1 G N T C D P S H0 H1 H2 H3 ta lf g n, ?_⟩
  rintro v c1 (⟨q, rfl, rfl⟩ | ⟨q, q3, rfl, rfl⟩ | ⟨q, q3, rfl, f2, rfl, hf⟩)
  · refine ⟨⟨_, rfl⟩, cw_of _ _ _ _ _ _ _ _ _ _ _ _ _ _ _, Ev.mono (ev_X12_sheet U lf B F A se R O V al dr 0 (by decide) g n) ?_⟩
    intro v2 m1 h
    rw [fm_iff] at h
    rcases h with ⟨q2, rfl, rfl⟩ | ⟨q2, q4, rfl, rfl⟩ | ⟨q2, q4, rfl, it2, rfl, h1, h2⟩
    · exact ⟨rfl, sim_of k⟩
    · exact absurd q q2
    · exact absurd q q2
  · refine ⟨⟨_, rfl⟩, cw_of _ _ _ _ _ _ _ _ _ _ _ _ _ _ _, Ev.mono (ev_X12_sheet U lf B F A se R O V al dr 0 (by decide) g n) ?_⟩
    intro v2 m1 h
    rw [fm_iff] at h
    rcases h with ⟨q2, rfl, rfl⟩ | ⟨q2, q4, rfl, rfl⟩ | ⟨q2, q4, rfl, it2, rfl, h1, h2⟩
    · exact absurd q2 q
    · exact ⟨rfl, sim_of k⟩
    · exact absurd q3 q4
  · refine ⟨⟨_, rfl⟩, cw_of _ _ _ _ _ _ _ _ _ _ _ _ _ _ _, Ev.mono (ev_X12_sheet U lf B F A se R O V al dr 0 (by decide) g n) ?_⟩
    intro v2 m1 h
    rw [fm_iff] at h
    rcases h with ⟨q2, rfl, rfl⟩ | ⟨q2, q4, rfl, rfl⟩ | ⟨q2, q4, rfl, it2, rfl, h1, h2⟩
    · exact absurd q2 q
    · exact absurd q4 q3
    · exact ⟨rfl, sim_of ⟨k.c47, k.c12, k.gi, k.ni, k.tt, k.crs, k.pin, k.ss, k.q0, k.q1, k.ok, HEq2.sheet q3 (Decidable.of_not_not fun z => q (Or.inr z)) (fun z => q (Or.inl (Or.inl z))) h1 hf, k.s1.keep (show upd U.1 0 g 1 = U.1 1 from pk_un (by decide)) (show upd U.2.1 0 n 1 = U.2.1 1 from pk_un (by decide)) (fun i hi => h2 _ (by omega)), k.s2.keep (show upd U.1 0 g 2 = U.1 2 from pk_un (by decide)) (show upd U.2.1 0 n 2 = U.2.1 2 from pk_un (by decide)) (fun i hi => h2 _ (by omega)), k.s3.keep (show upd U.1 0 g 3 = U.1 3 from pk_un (by decide)) (show upd U.2.1 0 n 3 = U.2.1 3 from pk_un (by decide)) (fun i hi => h2 _ (by omega))⟩⟩
theorem ag_sheet1 (g n : Int32) : Agr isI MX11_sheet MX12_sheet [.int (nI 1), .int g, .int n] := by
  intro c m hs
  obtain ⟨t0, t1, G, N, T, C, D, P, S, H0, H1, H2, H3, ta, lf, U, B, F, A, se, R, O, V, al, dr, rfl, rfl, k⟩ := hs
  refine ⟨_, ev_sheet1 t0 t1 G N T C D P S H0 H1 H2 H3 ta lf g n, ?_⟩
  rintro v c1 (⟨q, rfl, rfl⟩ | ⟨q, q3, rfl, rfl⟩ | ⟨q, q3, rfl, f2, rfl, hf⟩)
  · refine ⟨⟨_, rfl⟩, cw_of _ _ _ _ _ _ _ _ _ _ _ _ _ _ _, Ev.mono (ev_X12_sheet U lf B F A se R O V al dr 1 (by decide) g n) ?_⟩
    intro v2 m1 h
    rw [fm_iff] at h
    rcases h with ⟨q2, rfl, rfl⟩ | ⟨q2, q4, rfl, rfl⟩ | ⟨q2, q4, rfl, it2, rfl, h1, h2⟩
    · exact ⟨rfl, sim_of k⟩
    · exact absurd q q2
    · exact absurd q q2
  · refine ⟨⟨_, rfl⟩, cw_of _ _ _ _ _ _ _ _ _ _ _ _ _ _ _, Ev.mono (ev_X12_sheet U lf B F A se R O V al dr 1 (by decide) g n) ?_⟩
    intro v2 m1 h
    rw [fm_iff] at h
    rcases h with ⟨q2, rfl, rfl⟩ | ⟨q2, q4, rfl, rfl⟩ | ⟨q2, q4, rfl, it2, rfl, h1, h2⟩
    · exact absurd q2 q
    · exact ⟨rfl, sim_of k⟩
    · exact absurd q3 q4
  · refine ⟨⟨_, rfl⟩, cw_of _ _ _ _ _ _ _ _ _ _ _ _ _ _ _, Ev.mono (ev_X12_sheet U lf B F A se R O V al dr 1 (by decide) g n) ?_⟩
    intro v2 m1 h
    rw [fm_iff] at h
    rcases h with ⟨q2, rfl, rfl⟩ | ⟨q2, q4, rfl, rfl⟩ | ⟨q2, q4, rfl, it2, rfl, h1, h2⟩
    · exact absurd q2 q
    · exact absurd q4 q3
    · exact ⟨rfl, sim_of ⟨k.c47, k.c12, k.gi, k.ni, k.tt, k.crs, k.pin, k.ss, k.q0, k.q1, k.ok, k.s0.keep (show upd U.1 1 g 0 = U.1 0 from pk_un (by decide)) (show upd U.2.1 1 n 0 = U.2.1 0 from pk_un (by decide)) (fun i hi => h2 _ (by omega)), HEq2.sheet q3 (Decidable.of_not_not fun z => q (Or.inr z)) (fun z => q (Or.inl (Or.inl z))) h1 hf, k.s2.keep (show upd U.1 1 g 2 = U.1 2 from pk_un (by decide)) (show upd U.2.1 1 n 2 = U.2.1 2 from pk_un (by decide)) (fun i hi => h2 _ (by omega)), k.s3.keep (show upd U.1 1 g 3 = U.1 3 from pk_un (by decide)) (show upd U.2.1 1 n 3 = U.2.1 3 from pk_un (by decide)) (fun i hi => h2 _ (by omega))⟩⟩
theorem ag_sheet2 (g n : Int32) : Agr isI MX11_sheet MX12_sheet [.int (nI 2), .int g, .int n] := by
  intro c m hs
  obtain ⟨t0, t1, G, N, T, C, D, P, S, H0, H1, H2, H3, ta, lf, U, B, F, A, se, R, O, V, al, dr, rfl, rfl, k⟩ := hs
  refine ⟨_, ev_sheet2 t0 t1 G N T C D P S H0 H1 H2 H3 ta lf g n, ?_⟩
  rintro v c1 (⟨q, rfl, rfl⟩ | ⟨q, q3, rfl, rfl⟩ | ⟨q, q3, rfl, f2, rfl, hf⟩)
  · refine ⟨⟨_, rfl⟩, cw_of _ _ _ _ _ _ _ _ _ _ _ _ _ _ _, Ev.mono (ev_X12_sheet U lf B F A se R O V al dr 2 (by decide) g n) ?_⟩
    intro v2 m1 h
    rw [fm_iff] at h
    rcases h with ⟨q2, rfl, rfl⟩ | ⟨q2, q4, rfl, rfl⟩ | ⟨q2, q4, rfl, it2, rfl, h1, h2⟩
    · exact ⟨rfl, sim_of k⟩
    · exact absurd q q2
    · exact absurd q q2
  · refine ⟨⟨_, rfl⟩, cw_of _ _ _ _ _ _ _ _ _ _ _ _ _ _ _, Ev.mono (ev_X12_sheet U lf B F A se R O V al dr 2 (by decide) g n) ?_⟩
    intro v2 m1 h
    rw [fm_iff] at h
    rcases h with ⟨q2, rfl, rfl⟩ | ⟨q2, q4, rfl, rfl⟩ | ⟨q2, q4, rfl, it2, rfl, h1, h2⟩
    · exact absurd q2 q
    · exact ⟨rfl, sim_of k⟩
    · exact absurd q3 q4
  · refine ⟨⟨_, rfl⟩, cw_of _ _ _ _ _ _ _ _ _ _ _ _ _ _ _, Ev.mono (ev_X12_sheet U lf B F A se R O V al dr 2 (by decide) g n) ?_⟩
    intro v2 m1 h
    rw [fm_iff] at h
    rcases h with ⟨q2, rfl, rfl⟩ | ⟨q2, q4, rfl, rfl⟩ | ⟨q2, q4, rfl, it2, rfl, h1, h2⟩
    · exact absurd q2 q
    · exact absurd q4 q3
    · exact ⟨rfl, sim_of ⟨k.c47, k.c12, k.gi, k.ni, k.tt, k.crs, k.pin, k.ss, k.q0, k.q1, k.ok, k.s0.keep (show upd U.1 2 g 0 = U.1 0 from pk_un (by decide)) (show upd U.2.1 2 n 0 = U.2.1 0 from pk_un (by decide)) (fun i hi => h2 _ (by omega)), k.s1.keep (show upd U.1 2 g 1 = U.1 1 from pk_un (by decide)) (show upd U.2.1 2 n 1 = U.2.1 1 from pk_un (by decide)) (fun i hi => h2 _ (by omega)), HEq2.sheet q3 (Decidable.of_not_not fun z => q (Or.inr z)) (fun z => q (Or.inl (Or.inl z))) h1 hf, k.s3.keep (show upd U.1 2 g 3 = U.1 3 from pk_un (by decide)) (show upd U.2.1 2 n 3 = U.2.1 3 from pk_un (by decide)) (fun i hi => h2 _ (by omega))⟩⟩
theorem ag_sheet3 (g n : Int32) : Agr isI MX11_sheet MX12_sheet [.int (nI 3), .int g, .int n] := by
  intro c m hs
  obtain ⟨t0, t1, G, N, T, C, D, P, S, H0, H1, H2, H3, ta, lf, U, B, F, A, se, R, O, V, al, dr, rfl, rfl, k⟩ := hs
  refine ⟨_, ev_sheet3 t0 t1 G N T C D P S H0 H1 H2 H3 ta lf g n, ?_⟩
  rintro v c1 (⟨q, rfl, rfl⟩ | ⟨q, q3, rfl, rfl⟩ | ⟨q, q3, rfl, f2, rfl, hf⟩)
  · refine ⟨⟨_, rfl⟩, cw_of _ _ _ _ _ _ _ _ _ _ _ _ _ _ _, Ev.mono (ev_X12_sheet U lf B F A se R O V al dr 3 (by decide) g n) ?_⟩
    intro v2 m1 h
    rw [fm_iff] at h
    rcases h with ⟨q2, rfl, rfl⟩ | ⟨q2, q4, rfl, rfl⟩ | ⟨q2, q4, rfl, it2, rfl, h1, h2⟩
    · exact ⟨rfl, sim_of k⟩
    · exact absurd q q2
    · exact absurd q q2
  · refine ⟨⟨_, rfl⟩, cw_of _ _ _ _ _ _ _ _ _ _ _ _ _ _ _, Ev.mono (ev_X12_sheet U lf B F A se R O V al dr 3 (by decide) g n) ?_⟩
    intro v2 m1 h
    rw [fm_iff] at h
    rcases h with ⟨q2, rfl, rfl⟩ | ⟨q2, q4, rfl, rfl⟩ | ⟨q2, q4, rfl, it2, rfl, h1, h2⟩
    · exact absurd q2 q
    · exact ⟨rfl, sim_of k⟩
    · exact absurd q3 q4
  · refine ⟨⟨_, rfl⟩, cw_of _ _ _ _ _ _ _ _ _ _ _ _ _ _ _, Ev.mono (ev_X12_sheet U lf B F A se R O V al dr 3 (by decide) g n) ?_⟩
    intro v2 m1 h
    rw [fm_iff] at h
    rcases h with ⟨q2, rfl, rfl⟩ | ⟨q2, q4, rfl, rfl⟩ | ⟨q2, q4, rfl, it2, rfl, h1, h2⟩
    · exact absurd q2 q
    · exact absurd q4 q3
    · exact ⟨rfl, sim_of ⟨k.c47, k.c12, k.gi, k.ni, k.tt, k.crs, k.pin, k.ss, k.q0, k.q1, k.ok, k.s0.keep (show upd U.1 3 g 0 = U.1 0 from pk_un (by decide)) (show upd U.2.1 3 n 0 = U.2.1 0 from pk_un (by decide)) (fun i hi => h2 _ (by omega)), k.s1.keep (show upd U.1 3 g 1 = U.1 1 from pk_un (by decide)) (show upd U.2.1 3 n 1 = U.2.1 1 from pk_un (by decide)) (fun i hi => h2 _ (by omega)), k.s2.keep (show upd U.1 3 g 2 = U.1 2 from pk_un (by decide)) (show upd U.2.1 3 n 2 = U.2.1 2 from pk_un (by decide)) (fun i hi => h2 _ (by omega)), HEq2.sheet q3 (Decidable.of_not_not fun z => q (Or.inr z)) (fun z => q (Or.inl (Or.inl z))) h1 hf⟩⟩
theorem ag_sheet (x g n : Int32) : Agr isI MX11_sheet MX12_sheet [.int x, .int g, .int n] := by
  by_cases q : x < 0 ∨ 4 ≤ x
  · intro c m hs
    obtain ⟨t0, t1, G, N, T, C, D, P, S, H0, H1, H2, H3, ta, lf, U, B, F, A, se, R, O, V, al, dr, rfl, rfl, k⟩ := hs
    refine ⟨_, ev_sheet_bad t0 t1 G N T C D P S H0 H1 H2 H3 ta lf x g n q, ?_⟩
    rintro v c1 ⟨rfl, rfl⟩
    refine ⟨⟨_, rfl⟩, cw_of _ _ _ _ _ _ _ _ _ _ _ _ _ _ _, Ev.mono (ev_msheet_bad U lf B F A se R O V al dr x g n ((sh_iff x).mpr q)) ?_⟩
    rintro v2 m1 ⟨rfl, rfl⟩
    exact ⟨rfl, sim_of k⟩
  · obtain ⟨h1, h2⟩ := in_range (x := x) (n := 4) (fun z => q (Or.inl z)) (fun z => q (Or.inr z)) (by decide)
    rw [h1]
    generalize x.toNatClampNeg = xn at h2 ⊢
    match xn, h2 with
    | 0, _ => exact ag_sheet0 g n
    | 1, _ => exact ag_sheet1 g n
    | 2, _ => exact ag_sheet2 g n
    | 3, _ => exact ag_sheet3 g n
    | xn + 4, h => exact absurd h (by omega)
theorem ag_lay0 (g i u : Int32) : Agr isI MX11_lay MX12_lay [.int (nI 0), .int g, .int i, .int u] := by
  intro c m hs
  obtain ⟨t0, t1, G, N, T, C, D, P, S, H0, H1, H2, H3, ta, lf, U, B, F, A, se, R, O, V, al, dr, rfl, rfl, k⟩ := hs
  refine ⟨_, ev_lay0 t0 t1 G N T C D P S H0 H1 H2 H3 ta lf g i u k.s0.z, ?_⟩
  rintro v c1 (⟨q, rfl, rfl⟩ | ⟨q, q3, rfl, rfl⟩ | ⟨q, q3, rfl, rfl⟩)
  · refine ⟨⟨_, rfl⟩, cw_of _ _ _ _ _ _ _ _ _ _ _ _ _ _ _, Ev.mono (ev_X12_lay U lf B F A se R O V al dr 0 (by decide) H0.2.2.1 k.s0.z k.s0.sz g i u) ?_⟩
    intro v2 m1 h
    rw [fm_iff, fx_eq k.s0] at h
    rcases h with ⟨q2, rfl, rfl⟩ | ⟨q2, q4, rfl, rfl⟩ | ⟨q2, q4, rfl, rfl⟩
    · exact ⟨rfl, sim_of k⟩
    · exact absurd q q2
    · exact absurd q q2
  · refine ⟨⟨_, rfl⟩, cw_of _ _ _ _ _ _ _ _ _ _ _ _ _ _ _, Ev.mono (ev_X12_lay U lf B F A se R O V al dr 0 (by decide) H0.2.2.1 k.s0.z k.s0.sz g i u) ?_⟩
    intro v2 m1 h
    rw [fm_iff, fx_eq k.s0] at h
    rcases h with ⟨q2, rfl, rfl⟩ | ⟨q2, q4, rfl, rfl⟩ | ⟨q2, q4, rfl, rfl⟩
    · exact absurd q2 q
    · exact ⟨rfl, sim_of k⟩
    · exact absurd q4 q3
  · refine ⟨⟨_, rfl⟩, cw_of _ _ _ _ _ _ _ _ _ _ _ _ _ _ _, Ev.mono (ev_X12_lay U lf B F A se R O V al dr 0 (by decide) H0.2.2.1 k.s0.z k.s0.sz g i u) ?_⟩
    intro v2 m1 h
    rw [fm_iff, fx_eq k.s0] at h
    rcases h with ⟨q2, rfl, rfl⟩ | ⟨q2, q4, rfl, rfl⟩ | ⟨q2, q4, rfl, rfl⟩
    · exact absurd q2 q
    · exact absurd q3 q4
    · obtain ⟨z1, z2, z3, z4⟩ := fx0 q3
      have hz := k.s0.z
      have hi := (in_range z3 (Int32.not_le.mpr z4) (show H0.2.2.1 < 2 ^ 31 by omega)).2
      have hown : HEq2 (U.1, U.2.1, upd U.2.2.1 (60 * 0 + i.toNatClampNeg) (cutI g u), U.2.2.2) 0 (H0.1, H0.2.1, H0.2.2.1, upd H0.2.2.2 i.toNatClampNeg (cutI H0.2.1 u)) := by
        rw [← z2]
        exact k.s0.lay
      exact ⟨rfl, sim_of ⟨k.c47, k.c12, k.gi, k.ni, k.tt, k.crs, k.pin, k.ss, k.q0, k.q1, k.ok, hown, k.s1.keep rfl rfl (fun j hj => (show upd U.2.2.1 (60 * 0 + i.toNatClampNeg) (cutI g u) (60 * 1 + j) = U.2.2.1 (60 * 1 + j) from pk_un (by omega))), k.s2.keep rfl rfl (fun j hj => (show upd U.2.2.1 (60 * 0 + i.toNatClampNeg) (cutI g u) (60 * 2 + j) = U.2.2.1 (60 * 2 + j) from pk_un (by omega))), k.s3.keep rfl rfl (fun j hj => (show upd U.2.2.1 (60 * 0 + i.toNatClampNeg) (cutI g u) (60 * 3 + j) = U.2.2.1 (60 * 3 + j) from pk_un (by omega)))⟩⟩
theorem ag_lay1 (g i u : Int32) : Agr isI MX11_lay MX12_lay [.int (nI 1), .int g, .int i, .int u] := by
  intro c m hs
  obtain ⟨t0, t1, G, N, T, C, D, P, S, H0, H1, H2, H3, ta, lf, U, B, F, A, se, R, O, V, al, dr, rfl, rfl, k⟩ := hs
  refine ⟨_, ev_lay1 t0 t1 G N T C D P S H0 H1 H2 H3 ta lf g i u k.s1.z, ?_⟩
  rintro v c1 (⟨q, rfl, rfl⟩ | ⟨q, q3, rfl, rfl⟩ | ⟨q, q3, rfl, rfl⟩)
  · refine ⟨⟨_, rfl⟩, cw_of _ _ _ _ _ _ _ _ _ _ _ _ _ _ _, Ev.mono (ev_X12_lay U lf B F A se R O V al dr 1 (by decide) H1.2.2.1 k.s1.z k.s1.sz g i u) ?_⟩
    intro v2 m1 h
    rw [fm_iff, fx_eq k.s1] at h
    rcases h with ⟨q2, rfl, rfl⟩ | ⟨q2, q4, rfl, rfl⟩ | ⟨q2, q4, rfl, rfl⟩
    · exact ⟨rfl, sim_of k⟩
    · exact absurd q q2
    · exact absurd q q2
  · refine ⟨⟨_, rfl⟩, cw_of _ _ _ _ _ _ _ _ _ _ _ _ _ _ _, Ev.mono (ev_X12_lay U lf B F A se R O V al dr 1 (by decide) H1.2.2.1 k.s1.z k.s1.sz g i u) ?_⟩
    intro v2 m1 h
    rw [fm_iff, fx_eq k.s1] at h
    rcases h with ⟨q2, rfl, rfl⟩ | ⟨q2, q4, rfl, rfl⟩ | ⟨q2, q4, rfl, rfl⟩
    · exact absurd q2 q
    · exact ⟨rfl, sim_of k⟩
    · exact absurd q4 q3
  · refine ⟨⟨_, rfl⟩, cw_of _ _ _ _ _ _ _ _ _ _ _ _ _ _ _, Ev.mono (ev_X12_lay U lf B F A se R O V al dr 1 (by decide) H1.2.2.1 k.s1.z k.s1.sz g i u) ?_⟩
    intro v2 m1 h
    rw [fm_iff, fx_eq k.s1] at h
    rcases h with ⟨q2, rfl, rfl⟩ | ⟨q2, q4, rfl, rfl⟩ | ⟨q2, q4, rfl, rfl⟩
    · exact absurd q2 q
    · exact absurd q3 q4
    · obtain ⟨z1, z2, z3, z4⟩ := fx0 q3
      have hz := k.s1.z
      have hi := (in_range z3 (Int32.not_le.mpr z4) (show H1.2.2.1 < 2 ^ 31 by omega)).2
      have hown : HEq2 (U.1, U.2.1, upd U.2.2.1 (60 * 1 + i.toNatClampNeg) (cutI g u), U.2.2.2) 1 (H1.1, H1.2.1, H1.2.2.1, upd H1.2.2.2 i.toNatClampNeg (cutI H1.2.1 u)) := by
        rw [← z2]
        exact k.s1.lay
      exact ⟨rfl, sim_of ⟨k.c47, k.c12, k.gi, k.ni, k.tt, k.crs, k.pin, k.ss, k.q0, k.q1, k.ok, k.s0.keep rfl rfl (fun j hj => (show upd U.2.2.1 (60 * 1 + i.toNatClampNeg) (cutI g u) (60 * 0 + j) = U.2.2.1 (60 * 0 + j) from pk_un (by omega))), hown, k.s2.keep rfl rfl (fun j hj => (show upd U.2.2.1 (60 * 1 + i.toNatClampNeg) (cutI g u) (60 * 2 + j) = U.2.2.1 (60 * 2 + j) from pk_un (by omega))), k.s3.keep rfl rfl (fun j hj => (show upd U.2.2.1 (60 * 1 + i.toNatClampNeg) (cutI g u) (60 * 3 + j) = U.2.2.1 (60 * 3 + j) from pk_un (by omega)))⟩⟩
theorem ag_lay2 (g i u : Int32) : Agr isI MX11_lay MX12_lay [.int (nI 2), .int g, .int i, .int u] := by
  intro c m hs
  obtain ⟨t0, t1, G, N, T, C, D, P, S, H0, H1, H2, H3, ta, lf, U, B, F, A, se, R, O, V, al, dr, rfl, rfl, k⟩ := hs
  refine ⟨_, ev_lay2 t0 t1 G N T C D P S H0 H1 H2 H3 ta lf g i u k.s2.z, ?_⟩
  rintro v c1 (⟨q, rfl, rfl⟩ | ⟨q, q3, rfl, rfl⟩ | ⟨q, q3, rfl, rfl⟩)
  · refine ⟨⟨_, rfl⟩, cw_of _ _ _ _ _ _ _ _ _ _ _ _ _ _ _, Ev.mono (ev_X12_lay U lf B F A se R O V al dr 2 (by decide) H2.2.2.1 k.s2.z k.s2.sz g i u) ?_⟩
    intro v2 m1 h
    rw [fm_iff, fx_eq k.s2] at h
    rcases h with ⟨q2, rfl, rfl⟩ | ⟨q2, q4, rfl, rfl⟩ | ⟨q2, q4, rfl, rfl⟩
    · exact ⟨rfl, sim_of k⟩
    · exact absurd q q2
    · exact absurd q q2
  · refine ⟨⟨_, rfl⟩, cw_of _ _ _ _ _ _ _ _ _ _ _ _ _ _ _, Ev.mono (ev_X12_lay U lf B F A se R O V al dr 2 (by decide) H2.2.2.1 k.s2.z k.s2.sz g i u) ?_⟩
    intro v2 m1 h
    rw [fm_iff, fx_eq k.s2] at h
    rcases h with ⟨q2, rfl, rfl⟩ | ⟨q2, q4, rfl, rfl⟩ | ⟨q2, q4, rfl, rfl⟩
    · exact absurd q2 q
    · exact ⟨rfl, sim_of k⟩
    · exact absurd q4 q3
  · refine ⟨⟨_, rfl⟩, cw_of _ _ _ _ _ _ _ _ _ _ _ _ _ _ _, Ev.mono (ev_X12_lay U lf B F A se R O V al dr 2 (by decide) H2.2.2.1 k.s2.z k.s2.sz g i u) ?_⟩
    intro v2 m1 h
    rw [fm_iff, fx_eq k.s2] at h
    rcases h with ⟨q2, rfl, rfl⟩ | ⟨q2, q4, rfl, rfl⟩ | ⟨q2, q4, rfl, rfl⟩
    · exact absurd q2 q
    · exact absurd q3 q4
    · obtain ⟨z1, z2, z3, z4⟩ := fx0 q3
      have hz := k.s2.z
      have hi := (in_range z3 (Int32.not_le.mpr z4) (show H2.2.2.1 < 2 ^ 31 by omega)).2
      have hown : HEq2 (U.1, U.2.1, upd U.2.2.1 (60 * 2 + i.toNatClampNeg) (cutI g u), U.2.2.2) 2 (H2.1, H2.2.1, H2.2.2.1, upd H2.2.2.2 i.toNatClampNeg (cutI H2.2.1 u)) := by
        rw [← z2]
        exact k.s2.lay
      exact ⟨rfl, sim_of ⟨k.c47, k.c12, k.gi, k.ni, k.tt, k.crs, k.pin, k.ss, k.q0, k.q1, k.ok, k.s0.keep rfl rfl (fun j hj => (show upd U.2.2.1 (60 * 2 + i.toNatClampNeg) (cutI g u) (60 * 0 + j) = U.2.2.1 (60 * 0 + j) from pk_un (by omega))), k.s1.keep rfl rfl (fun j hj => (show upd U.2.2.1 (60 * 2 + i.toNatClampNeg) (cutI g u) (60 * 1 + j) = U.2.2.1 (60 * 1 + j) from pk_un (by omega))), hown, k.s3.keep rfl rfl (fun j hj => (show upd U.2.2.1 (60 * 2 + i.toNatClampNeg) (cutI g u) (60 * 3 + j) = U.2.2.1 (60 * 3 + j) from pk_un (by omega)))⟩⟩
theorem ag_lay3 (g i u : Int32) : Agr isI MX11_lay MX12_lay [.int (nI 3), .int g, .int i, .int u] := by
  intro c m hs
  obtain ⟨t0, t1, G, N, T, C, D, P, S, H0, H1, H2, H3, ta, lf, U, B, F, A, se, R, O, V, al, dr, rfl, rfl, k⟩ := hs
  refine ⟨_, ev_lay3 t0 t1 G N T C D P S H0 H1 H2 H3 ta lf g i u k.s3.z, ?_⟩
  rintro v c1 (⟨q, rfl, rfl⟩ | ⟨q, q3, rfl, rfl⟩ | ⟨q, q3, rfl, rfl⟩)
  · refine ⟨⟨_, rfl⟩, cw_of _ _ _ _ _ _ _ _ _ _ _ _ _ _ _, Ev.mono (ev_X12_lay U lf B F A se R O V al dr 3 (by decide) H3.2.2.1 k.s3.z k.s3.sz g i u) ?_⟩
    intro v2 m1 h
    rw [fm_iff, fx_eq k.s3] at h
    rcases h with ⟨q2, rfl, rfl⟩ | ⟨q2, q4, rfl, rfl⟩ | ⟨q2, q4, rfl, rfl⟩
    · exact ⟨rfl, sim_of k⟩
    · exact absurd q q2
    · exact absurd q q2
  · refine ⟨⟨_, rfl⟩, cw_of _ _ _ _ _ _ _ _ _ _ _ _ _ _ _, Ev.mono (ev_X12_lay U lf B F A se R O V al dr 3 (by decide) H3.2.2.1 k.s3.z k.s3.sz g i u) ?_⟩
    intro v2 m1 h
    rw [fm_iff, fx_eq k.s3] at h
    rcases h with ⟨q2, rfl, rfl⟩ | ⟨q2, q4, rfl, rfl⟩ | ⟨q2, q4, rfl, rfl⟩
    · exact absurd q2 q
    · exact ⟨rfl, sim_of k⟩
    · exact absurd q4 q3
  · refine ⟨⟨_, rfl⟩, cw_of _ _ _ _ _ _ _ _ _ _ _ _ _ _ _, Ev.mono (ev_X12_lay U lf B F A se R O V al dr 3 (by decide) H3.2.2.1 k.s3.z k.s3.sz g i u) ?_⟩
    intro v2 m1 h
    rw [fm_iff, fx_eq k.s3] at h
    rcases h with ⟨q2, rfl, rfl⟩ | ⟨q2, q4, rfl, rfl⟩ | ⟨q2, q4, rfl, rfl⟩
    · exact absurd q2 q
    · exact absurd q3 q4
    · obtain ⟨z1, z2, z3, z4⟩ := fx0 q3
      have hz := k.s3.z
      have hi := (in_range z3 (Int32.not_le.mpr z4) (show H3.2.2.1 < 2 ^ 31 by omega)).2
      have hown : HEq2 (U.1, U.2.1, upd U.2.2.1 (60 * 3 + i.toNatClampNeg) (cutI g u), U.2.2.2) 3 (H3.1, H3.2.1, H3.2.2.1, upd H3.2.2.2 i.toNatClampNeg (cutI H3.2.1 u)) := by
        rw [← z2]
        exact k.s3.lay
      exact ⟨rfl, sim_of ⟨k.c47, k.c12, k.gi, k.ni, k.tt, k.crs, k.pin, k.ss, k.q0, k.q1, k.ok, k.s0.keep rfl rfl (fun j hj => (show upd U.2.2.1 (60 * 3 + i.toNatClampNeg) (cutI g u) (60 * 0 + j) = U.2.2.1 (60 * 0 + j) from pk_un (by omega))), k.s1.keep rfl rfl (fun j hj => (show upd U.2.2.1 (60 * 3 + i.toNatClampNeg) (cutI g u) (60 * 1 + j) = U.2.2.1 (60 * 1 + j) from pk_un (by omega))), k.s2.keep rfl rfl (fun j hj => (show upd U.2.2.1 (60 * 3 + i.toNatClampNeg) (cutI g u) (60 * 2 + j) = U.2.2.1 (60 * 2 + j) from pk_un (by omega))), hown⟩⟩
theorem ag_lay (x g i u : Int32) : Agr isI MX11_lay MX12_lay [.int x, .int g, .int i, .int u] := by
  by_cases q : x < 0 ∨ 4 ≤ x
  · intro c m hs
    obtain ⟨t0, t1, G, N, T, C, D, P, S, H0, H1, H2, H3, ta, lf, U, B, F, A, se, R, O, V, al, dr, rfl, rfl, k⟩ := hs
    refine ⟨_, ev_lay_bad t0 t1 G N T C D P S H0 H1 H2 H3 ta lf x g i u q, ?_⟩
    rintro v c1 ⟨rfl, rfl⟩
    refine ⟨⟨_, rfl⟩, cw_of _ _ _ _ _ _ _ _ _ _ _ _ _ _ _, Ev.mono (ev_mlay_bad U lf B F A se R O V al dr x g i u ((sh_iff x).mpr q)) ?_⟩
    rintro v2 m1 ⟨rfl, rfl⟩
    exact ⟨rfl, sim_of k⟩
  · obtain ⟨h1, h2⟩ := in_range (x := x) (n := 4) (fun z => q (Or.inl z)) (fun z => q (Or.inr z)) (by decide)
    rw [h1]
    generalize x.toNatClampNeg = xn at h2 ⊢
    match xn, h2 with
    | 0, _ => exact ag_lay0 g i u
    | 1, _ => exact ag_lay1 g i u
    | 2, _ => exact ag_lay2 g i u
    | 3, _ => exact ag_lay3 g i u
    | xn + 4, h => exact absurd h (by omega)
theorem ag_get0 (g i : Int32) : Agr isI MX11_get MX12_get [.int (nI 0), .int g, .int i] := by
  intro c m hs
  obtain ⟨t0, t1, G, N, T, C, D, P, S, H0, H1, H2, H3, ta, lf, U, B, F, A, se, R, O, V, al, dr, rfl, rfl, k⟩ := hs
  refine ⟨_, ev_get0 t0 t1 G N T C D P S H0 H1 H2 H3 ta lf g i k.s0.z, ?_⟩
  rintro v c1 (⟨q, rfl, rfl⟩ | ⟨q, q3, rfl, rfl⟩ | ⟨q, q3, rfl, rfl⟩)
  · refine ⟨⟨_, rfl⟩, cw_of _ _ _ _ _ _ _ _ _ _ _ _ _ _ _, Ev.mono (ev_X12_get U lf B F A se R O V al dr 0 (by decide) H0.2.2.1 k.s0.z k.s0.sz g i) ?_⟩
    intro v2 m1 h
    rw [fm_iff, fx_eq k.s0] at h
    rcases h with ⟨q2, rfl, rfl⟩ | ⟨q2, q4, rfl, rfl⟩ | ⟨q2, q4, rfl, rfl⟩
    · exact ⟨rfl, sim_of k⟩
    · exact absurd q q2
    · exact absurd q q2
  · refine ⟨⟨_, rfl⟩, cw_of _ _ _ _ _ _ _ _ _ _ _ _ _ _ _, Ev.mono (ev_X12_get U lf B F A se R O V al dr 0 (by decide) H0.2.2.1 k.s0.z k.s0.sz g i) ?_⟩
    intro v2 m1 h
    rw [fm_iff, fx_eq k.s0] at h
    rcases h with ⟨q2, rfl, rfl⟩ | ⟨q2, q4, rfl, rfl⟩ | ⟨q2, q4, rfl, rfl⟩
    · exact absurd q2 q
    · exact ⟨rfl, sim_of k⟩
    · exact absurd q4 q3
  · refine ⟨⟨_, rfl⟩, cw_of _ _ _ _ _ _ _ _ _ _ _ _ _ _ _, Ev.mono (ev_X12_get U lf B F A se R O V al dr 0 (by decide) H0.2.2.1 k.s0.z k.s0.sz g i) ?_⟩
    intro v2 m1 h
    rw [fm_iff, fx_eq k.s0] at h
    rcases h with ⟨q2, rfl, rfl⟩ | ⟨q2, q4, rfl, rfl⟩ | ⟨q2, q4, rfl, rfl⟩
    · exact absurd q2 q
    · exact absurd q3 q4
    · obtain ⟨z1, z2, z3, z4⟩ := fx0 q3
      have hz := k.s0.z
      have hi := (in_range z3 (Int32.not_le.mpr z4) (show H0.2.2.1 < 2 ^ 31 by omega)).2
      exact ⟨by rw [k.s0.item z1 _ hi], sim_of k⟩
theorem ag_get1 (g i : Int32) : Agr isI MX11_get MX12_get [.int (nI 1), .int g, .int i] := by
  intro c m hs
  obtain ⟨t0, t1, G, N, T, C, D, P, S, H0, H1, H2, H3, ta, lf, U, B, F, A, se, R, O, V, al, dr, rfl, rfl, k⟩ := hs
  refine ⟨_, ev_get1 t0 t1 G N T C D P S H0 H1 H2 H3 ta lf g i k.s1.z, ?_⟩
  rintro v c1 (⟨q, rfl, rfl⟩ | ⟨q, q3, rfl, rfl⟩ | ⟨q, q3, rfl, rfl⟩)
  · refine ⟨⟨_, rfl⟩, cw_of _ _ _ _ _ _ _ _ _ _ _ _ _ _ _, Ev.mono (ev_X12_get U lf B F A se R O V al dr 1 (by decide) H1.2.2.1 k.s1.z k.s1.sz g i) ?_⟩
    intro v2 m1 h
    rw [fm_iff, fx_eq k.s1] at h
    rcases h with ⟨q2, rfl, rfl⟩ | ⟨q2, q4, rfl, rfl⟩ | ⟨q2, q4, rfl, rfl⟩
    · exact ⟨rfl, sim_of k⟩
    · exact absurd q q2
    · exact absurd q q2
  · refine ⟨⟨_, rfl⟩, cw_of _ _ _ _ _ _ _ _ _ _ _ _ _ _ _, Ev.mono (ev_X12_get U lf B F A se R O V al dr 1 (by decide) H1.2.2.1 k.s1.z k.s1.sz g i) ?_⟩
    intro v2 m1 h
    rw [fm_iff, fx_eq k.s1] at h
    rcases h with ⟨q2, rfl, rfl⟩ | ⟨q2, q4, rfl, rfl⟩ | ⟨q2, q4, rfl, rfl⟩
    · exact absurd q2 q
    · exact ⟨rfl, sim_of k⟩
    · exact absurd q4 q3
  · refine ⟨⟨_, rfl⟩, cw_of _ _ _ _ _ _ _ _ _ _ _ _ _ _ _, Ev.mono (ev_X12_get U lf B F A se R O V al dr 1 (by decide) H1.2.2.1 k.s1.z k.s1.sz g i) ?_⟩
    intro v2 m1 h
    rw [fm_iff, fx_eq k.s1] at h
    rcases h with ⟨q2, rfl, rfl⟩ | ⟨q2, q4, rfl, rfl⟩ | ⟨q2, q4, rfl, rfl⟩
    · exact absurd q2 q
    · exact absurd q3 q4
    · obtain ⟨z1, z2, z3, z4⟩ := fx0 q3
      have hz := k.s1.z
      have hi := (in_range z3 (Int32.not_le.mpr z4) (show H1.2.2.1 < 2 ^ 31 by omega)).2
      exact ⟨by rw [k.s1.item z1 _ hi], sim_of k⟩
theorem ag_get2 (g i : Int32) : Agr isI MX11_get MX12_get [.int (nI 2), .int g, .int i] := by
  intro c m hs
  obtain ⟨t0, t1, G, N, T, C, D, P, S, H0, H1, H2, H3, ta, lf, U, B, F, A, se, R, O, V, al, dr, rfl, rfl, k⟩ := hs
  refine ⟨_, ev_get2 t0 t1 G N T C D P S H0 H1 H2 H3 ta lf g i k.s2.z, ?_⟩
  rintro v c1 (⟨q, rfl, rfl⟩ | ⟨q, q3, rfl, rfl⟩ | ⟨q, q3, rfl, rfl⟩)
  · refine ⟨⟨_, rfl⟩, cw_of _ _ _ _ _ _ _ _ _ _ _ _ _ _ _, Ev.mono (ev_X12_get U lf B F A se R O V al dr 2 (by decide) H2.2.2.1 k.s2.z k.s2.sz g i) ?_⟩
    intro v2 m1 h
    rw [fm_iff, fx_eq k.s2] at h
    rcases h with ⟨q2, rfl, rfl⟩ | ⟨q2, q4, rfl, rfl⟩ | ⟨q2, q4, rfl, rfl⟩
    · exact ⟨rfl, sim_of k⟩
    · exact absurd q q2
    · exact absurd q q2
  · refine ⟨⟨_, rfl⟩, cw_of _ _ _ _ _ _ _ _ _ _ _ _ _ _ _, Ev.mono (ev_X12_get U lf B F A se R O V al dr 2 (by decide) H2.2.2.1 k.s2.z k.s2.sz g i) ?_⟩
    intro v2 m1 h
    rw [fm_iff, fx_eq k.s2] at h
    rcases h with ⟨q2, rfl, rfl⟩ | ⟨q2, q4, rfl, rfl⟩ | ⟨q2, q4, rfl, rfl⟩
    · exact absurd q2 q
    · exact ⟨rfl, sim_of k⟩
    · exact absurd q4 q3
  · refine ⟨⟨_, rfl⟩, cw_of _ _ _ _ _ _ _ _ _ _ _ _ _ _ _, Ev.mono (ev_X12_get U lf B F A se R O V al dr 2 (by decide) H2.2.2.1 k.s2.z k.s2.sz g i) ?_⟩
    intro v2 m1 h
    rw [fm_iff, fx_eq k.s2] at h
    rcases h with ⟨q2, rfl, rfl⟩ | ⟨q2, q4, rfl, rfl⟩ | ⟨q2, q4, rfl, rfl⟩
    · exact absurd q2 q
    · exact absurd q3 q4
    · obtain ⟨z1, z2, z3, z4⟩ := fx0 q3
      have hz := k.s2.z
      have hi := (in_range z3 (Int32.not_le.mpr z4) (show H2.2.2.1 < 2 ^ 31 by omega)).2
      exact ⟨by rw [k.s2.item z1 _ hi], sim_of k⟩
theorem ag_get3 (g i : Int32) : Agr isI MX11_get MX12_get [.int (nI 3), .int g, .int i] := by
  intro c m hs
  obtain ⟨t0, t1, G, N, T, C, D, P, S, H0, H1, H2, H3, ta, lf, U, B, F, A, se, R, O, V, al, dr, rfl, rfl, k⟩ := hs
  refine ⟨_, ev_get3 t0 t1 G N T C D P S H0 H1 H2 H3 ta lf g i k.s3.z, ?_⟩
  rintro v c1 (⟨q, rfl, rfl⟩ | ⟨q, q3, rfl, rfl⟩ | ⟨q, q3, rfl, rfl⟩)
  · refine ⟨⟨_, rfl⟩, cw_of _ _ _ _ _ _ _ _ _ _ _ _ _ _ _, Ev.mono (ev_X12_get U lf B F A se R O V al dr 3 (by decide) H3.2.2.1 k.s3.z k.s3.sz g i) ?_⟩
    intro v2 m1 h
    rw [fm_iff, fx_eq k.s3] at h
    rcases h with ⟨q2, rfl, rfl⟩ | ⟨q2, q4, rfl, rfl⟩ | ⟨q2, q4, rfl, rfl⟩
    · exact ⟨rfl, sim_of k⟩
    · exact absurd q q2
    · exact absurd q q2
  · refine ⟨⟨_, rfl⟩, cw_of _ _ _ _ _ _ _ _ _ _ _ _ _ _ _, Ev.mono (ev_X12_get U lf B F A se R O V al dr 3 (by decide) H3.2.2.1 k.s3.z k.s3.sz g i) ?_⟩
    intro v2 m1 h
    rw [fm_iff, fx_eq k.s3] at h
    rcases h with ⟨q2, rfl, rfl⟩ | ⟨q2, q4, rfl, rfl⟩ | ⟨q2, q4, rfl, rfl⟩
    · exact absurd q2 q
    · exact ⟨rfl, sim_of k⟩
    · exact absurd q4 q3
  · refine ⟨⟨_, rfl⟩, cw_of _ _ _ _ _ _ _ _ _ _ _ _ _ _ _, Ev.mono (ev_X12_get U lf B F A se R O V al dr 3 (by decide) H3.2.2.1 k.s3.z k.s3.sz g i) ?_⟩
    intro v2 m1 h
    rw [fm_iff, fx_eq k.s3] at h
    rcases h with ⟨q2, rfl, rfl⟩ | ⟨q2, q4, rfl, rfl⟩ | ⟨q2, q4, rfl, rfl⟩
    · exact absurd q2 q
    · exact absurd q3 q4
    · obtain ⟨z1, z2, z3, z4⟩ := fx0 q3
      have hz := k.s3.z
      have hi := (in_range z3 (Int32.not_le.mpr z4) (show H3.2.2.1 < 2 ^ 31 by omega)).2
      exact ⟨by rw [k.s3.item z1 _ hi], sim_of k⟩
theorem ag_get (x g i : Int32) : Agr isI MX11_get MX12_get [.int x, .int g, .int i] := by
  by_cases q : x < 0 ∨ 4 ≤ x
  · intro c m hs
    obtain ⟨t0, t1, G, N, T, C, D, P, S, H0, H1, H2, H3, ta, lf, U, B, F, A, se, R, O, V, al, dr, rfl, rfl, k⟩ := hs
    refine ⟨_, ev_get_bad t0 t1 G N T C D P S H0 H1 H2 H3 ta lf x g i q, ?_⟩
    rintro v c1 ⟨rfl, rfl⟩
    refine ⟨⟨_, rfl⟩, cw_of _ _ _ _ _ _ _ _ _ _ _ _ _ _ _, Ev.mono (ev_mget_bad U lf B F A se R O V al dr x g i ((sh_iff x).mpr q)) ?_⟩
    rintro v2 m1 ⟨rfl, rfl⟩
    exact ⟨rfl, sim_of k⟩
  · obtain ⟨h1, h2⟩ := in_range (x := x) (n := 4) (fun z => q (Or.inl z)) (fun z => q (Or.inr z)) (by decide)
    rw [h1]
    generalize x.toNatClampNeg = xn at h2 ⊢
    match xn, h2 with
    | 0, _ => exact ag_get0 g i
    | 1, _ => exact ag_get1 g i
    | 2, _ => exact ag_get2 g i
    | 3, _ => exact ag_get3 g i
    | xn + 4, h => exact absurd h (by omega)
theorem ag_read0 : Agr isI MX11_read MX12_read [.int (nI 0)] := by
  intro c m hs
  obtain ⟨t0, t1, G, N, T, C, D, P, S, H0, H1, H2, H3, ta, lf, U, B, F, A, se, R, O, V, al, dr, rfl, rfl, k⟩ := hs
  refine ⟨_, ev_read0 t0 t1 G N T C D P S H0 H1 H2 H3 ta lf k.s0.z k.ss.1, ?_⟩
  rintro v c1 (⟨q, rfl, rfl⟩ | ⟨q, rfl, rfl⟩)
  · refine ⟨⟨_, rfl⟩, cw_of _ _ _ _ _ _ _ _ _ _ _ _ _ _ _, Ev.mono (ev_X12_read U lf B F A se R O V al dr 0 (by decide) H0.2.2.1 k.s0.z k.s0.sz k.vok.1) ?_⟩
    rintro v2 m1 (⟨q2, rfl, rfl⟩ | ⟨q2, rfl, E, rfl, hE⟩)
    · exact ⟨rfl, sim_of k⟩
    · exact absurd (k.s0.lost.mp q) q2
  · refine ⟨⟨_, rfl⟩, cw_of _ _ _ _ _ _ _ _ _ _ _ _ _ _ _, Ev.mono (ev_X12_read U lf B F A se R O V al dr 0 (by decide) H0.2.2.1 k.s0.z k.s0.sz k.vok.1) ?_⟩
    rintro v2 m1 (⟨q2, rfl, rfl⟩ | ⟨q2, rfl, E, rfl, hE⟩)
    · exact absurd q (k.s0.lost.mpr q2)
    · have hcg := rdS_cg (r1 := H0.2.2.2) (r2 := fun i => U.2.2.1 (60 * 0 + i)) (z := H0.2.2.1) (fun i hi => (k.s0.item q i hi).symm) 31 0 S (SV V) k.ss.2.2
      have hok := rdS_ok (r1 := H0.2.2.2) (z := H0.2.2.1) 31 0 S k.ss.1 k.ss.2.1
      exact ⟨by rw [hcg.1], sim_of ⟨k.c47, k.c12, k.gi, k.ni, k.tt, k.crs, k.pin, ⟨hok.1, hok.2, by rw [hE]; exact hcg.2⟩, k.q0, k.q1, k.ok, k.s0, k.s1, k.s2, k.s3⟩⟩
theorem ag_read1 : Agr isI MX11_read MX12_read [.int (nI 1)] := by
  intro c m hs
  obtain ⟨t0, t1, G, N, T, C, D, P, S, H0, H1, H2, H3, ta, lf, U, B, F, A, se, R, O, V, al, dr, rfl, rfl, k⟩ := hs
  refine ⟨_, ev_read1 t0 t1 G N T C D P S H0 H1 H2 H3 ta lf k.s1.z k.ss.1, ?_⟩
  rintro v c1 (⟨q, rfl, rfl⟩ | ⟨q, rfl, rfl⟩)
  · refine ⟨⟨_, rfl⟩, cw_of _ _ _ _ _ _ _ _ _ _ _ _ _ _ _, Ev.mono (ev_X12_read U lf B F A se R O V al dr 1 (by decide) H1.2.2.1 k.s1.z k.s1.sz k.vok.1) ?_⟩
    rintro v2 m1 (⟨q2, rfl, rfl⟩ | ⟨q2, rfl, E, rfl, hE⟩)
    · exact ⟨rfl, sim_of k⟩
    · exact absurd (k.s1.lost.mp q) q2
  · refine ⟨⟨_, rfl⟩, cw_of _ _ _ _ _ _ _ _ _ _ _ _ _ _ _, Ev.mono (ev_X12_read U lf B F A se R O V al dr 1 (by decide) H1.2.2.1 k.s1.z k.s1.sz k.vok.1) ?_⟩
    rintro v2 m1 (⟨q2, rfl, rfl⟩ | ⟨q2, rfl, E, rfl, hE⟩)
    · exact absurd q (k.s1.lost.mpr q2)
    · have hcg := rdS_cg (r1 := H1.2.2.2) (r2 := fun i => U.2.2.1 (60 * 1 + i)) (z := H1.2.2.1) (fun i hi => (k.s1.item q i hi).symm) 31 0 S (SV V) k.ss.2.2
      have hok := rdS_ok (r1 := H1.2.2.2) (z := H1.2.2.1) 31 0 S k.ss.1 k.ss.2.1
      exact ⟨by rw [hcg.1], sim_of ⟨k.c47, k.c12, k.gi, k.ni, k.tt, k.crs, k.pin, ⟨hok.1, hok.2, by rw [hE]; exact hcg.2⟩, k.q0, k.q1, k.ok, k.s0, k.s1, k.s2, k.s3⟩⟩
theorem ag_read2 : Agr isI MX11_read MX12_read [.int (nI 2)] := by
  intro c m hs
  obtain ⟨t0, t1, G, N, T, C, D, P, S, H0, H1, H2, H3, ta, lf, U, B, F, A, se, R, O, V, al, dr, rfl, rfl, k⟩ := hs
  refine ⟨_, ev_read2 t0 t1 G N T C D P S H0 H1 H2 H3 ta lf k.s2.z k.ss.1, ?_⟩
  rintro v c1 (⟨q, rfl, rfl⟩ | ⟨q, rfl, rfl⟩)
  · refine ⟨⟨_, rfl⟩, cw_of _ _ _ _ _ _ _ _ _ _ _ _ _ _ _, Ev.mono (ev_X12_read U lf B F A se R O V al dr 2 (by decide) H2.2.2.1 k.s2.z k.s2.sz k.vok.1) ?_⟩
    rintro v2 m1 (⟨q2, rfl, rfl⟩ | ⟨q2, rfl, E, rfl, hE⟩)
    · exact ⟨rfl, sim_of k⟩
    · exact absurd (k.s2.lost.mp q) q2
  · refine ⟨⟨_, rfl⟩, cw_of _ _ _ _ _ _ _ _ _ _ _ _ _ _ _, Ev.mono (ev_X12_read U lf B F A se R O V al dr 2 (by decide) H2.2.2.1 k.s2.z k.s2.sz k.vok.1) ?_⟩
    rintro v2 m1 (⟨q2, rfl, rfl⟩ | ⟨q2, rfl, E, rfl, hE⟩)
    · exact absurd q (k.s2.lost.mpr q2)
    · have hcg := rdS_cg (r1 := H2.2.2.2) (r2 := fun i => U.2.2.1 (60 * 2 + i)) (z := H2.2.2.1) (fun i hi => (k.s2.item q i hi).symm) 31 0 S (SV V) k.ss.2.2
      have hok := rdS_ok (r1 := H2.2.2.2) (z := H2.2.2.1) 31 0 S k.ss.1 k.ss.2.1
      exact ⟨by rw [hcg.1], sim_of ⟨k.c47, k.c12, k.gi, k.ni, k.tt, k.crs, k.pin, ⟨hok.1, hok.2, by rw [hE]; exact hcg.2⟩, k.q0, k.q1, k.ok, k.s0, k.s1, k.s2, k.s3⟩⟩
theorem ag_read3 : Agr isI MX11_read MX12_read [.int (nI 3)] := by
  intro c m hs
  obtain ⟨t0, t1, G, N, T, C, D, P, S, H0, H1, H2, H3, ta, lf, U, B, F, A, se, R, O, V, al, dr, rfl, rfl, k⟩ := hs
  refine ⟨_, ev_read3 t0 t1 G N T C D P S H0 H1 H2 H3 ta lf k.s3.z k.ss.1, ?_⟩
  rintro v c1 (⟨q, rfl, rfl⟩ | ⟨q, rfl, rfl⟩)
  · refine ⟨⟨_, rfl⟩, cw_of _ _ _ _ _ _ _ _ _ _ _ _ _ _ _, Ev.mono (ev_X12_read U lf B F A se R O V al dr 3 (by decide) H3.2.2.1 k.s3.z k.s3.sz k.vok.1) ?_⟩
    rintro v2 m1 (⟨q2, rfl, rfl⟩ | ⟨q2, rfl, E, rfl, hE⟩)
    · exact ⟨rfl, sim_of k⟩
    · exact absurd (k.s3.lost.mp q) q2
  · refine ⟨⟨_, rfl⟩, cw_of _ _ _ _ _ _ _ _ _ _ _ _ _ _ _, Ev.mono (ev_X12_read U lf B F A se R O V al dr 3 (by decide) H3.2.2.1 k.s3.z k.s3.sz k.vok.1) ?_⟩
    rintro v2 m1 (⟨q2, rfl, rfl⟩ | ⟨q2, rfl, E, rfl, hE⟩)
    · exact absurd q (k.s3.lost.mpr q2)
    · have hcg := rdS_cg (r1 := H3.2.2.2) (r2 := fun i => U.2.2.1 (60 * 3 + i)) (z := H3.2.2.1) (fun i hi => (k.s3.item q i hi).symm) 31 0 S (SV V) k.ss.2.2
      have hok := rdS_ok (r1 := H3.2.2.2) (z := H3.2.2.1) 31 0 S k.ss.1 k.ss.2.1
      exact ⟨by rw [hcg.1], sim_of ⟨k.c47, k.c12, k.gi, k.ni, k.tt, k.crs, k.pin, ⟨hok.1, hok.2, by rw [hE]; exact hcg.2⟩, k.q0, k.q1, k.ok, k.s0, k.s1, k.s2, k.s3⟩⟩
theorem ag_read (x : Int32) : Agr isI MX11_read MX12_read [.int x] := by
  by_cases q : x < 0 ∨ 4 ≤ x
  · intro c m hs
    obtain ⟨t0, t1, G, N, T, C, D, P, S, H0, H1, H2, H3, ta, lf, U, B, F, A, se, R, O, V, al, dr, rfl, rfl, k⟩ := hs
    refine ⟨_, ev_read_bad t0 t1 G N T C D P S H0 H1 H2 H3 ta lf x q, ?_⟩
    rintro v c1 ⟨rfl, rfl⟩
    refine ⟨⟨_, rfl⟩, cw_of _ _ _ _ _ _ _ _ _ _ _ _ _ _ _, Ev.mono (ev_mread_bad U lf B F A se R O V al dr x ((sh_iff x).mpr q)) ?_⟩
    rintro v2 m1 ⟨rfl, rfl⟩
    exact ⟨rfl, sim_of k⟩
  · obtain ⟨h1, h2⟩ := in_range (x := x) (n := 4) (fun z => q (Or.inl z)) (fun z => q (Or.inr z)) (by decide)
    rw [h1]
    generalize x.toNatClampNeg = xn at h2 ⊢
    match xn, h2 with
    | 0, _ => exact ag_read0
    | 1, _ => exact ag_read1
    | 2, _ => exact ag_read2
    | 3, _ => exact ag_read3
    | xn + 4, h => exact absurd h (by omega)
theorem ag_write0 : Agr isI MX11_write MX12_write [.int (nI 0)] := by
  intro c m hs
  obtain ⟨t0, t1, G, N, T, C, D, P, S, H0, H1, H2, H3, ta, lf, U, B, F, A, se, R, O, V, al, dr, rfl, rfl, k⟩ := hs
  refine ⟨_, ev_write0 t0 t1 G N T C D P S H0 H1 H2 H3 ta lf k.s0.z k.hN.1, ?_⟩
  rintro v c1 (⟨q, rfl, rfl⟩ | ⟨q, rfl, rfl⟩)
  · refine ⟨⟨_, rfl⟩, cw_of _ _ _ _ _ _ _ _ _ _ _ _ _ _ _, Ev.mono (ev_X12_write U lf B F A se R O V al dr 0 (by decide) H0.2.2.1 k.s0.z k.s0.sz _ _ _ _ _ k.ok) ?_⟩
    rintro v2 m1 (⟨q2, rfl, rfl⟩ | ⟨q2, F2, A2, R2, g1, g2, g3, rfl, rfl⟩)
    · exact ⟨rfl, sim_of k⟩
    · exact absurd (k.s0.lost.mp q) q2
  · refine ⟨⟨_, rfl⟩, cw_of _ _ _ _ _ _ _ _ _ _ _ _ _ _ _, Ev.mono (ev_X12_write U lf B F A se R O V al dr 0 (by decide) H0.2.2.1 k.s0.z k.s0.sz _ _ _ _ _ k.ok) ?_⟩
    rintro v2 m1 (⟨q2, rfl, rfl⟩ | ⟨q2, F2, A2, R2, g1, g2, g3, rfl, rfl⟩)
    · exact absurd q (k.s0.lost.mpr q2)
    · have hz := k.s0.z
      have hae := k.ae g2
      have hown := k.s0.write (n := min H0.2.2.1 A2.1) q (Nat.min_le_left _ _) (fun i hi => k.cm g1 g2 i (by omega))
      rw [show min H0.2.2.1 N.1 = min H0.2.2.1 A2.1 by rw [hae]]
      exact ⟨rfl, sim_of ⟨k.c47, k.c12, k.gi, k.ni, k.tt, k.crs, k.pin, k.ss, k.q0, k.q1, k.ok, hown, k.s1.keep rfl rfl (fun j hj => (show wrI (60 * 0) (U.1 0) (wC F2.1 F2.2 (nmR A2.2) (se 0) (se 1) (se 2)) U.2.2.1 (min H0.2.2.1 A2.1) (60 * 1 + j) = U.2.2.1 (60 * 1 + j) by rw [wrI_at, if_neg (by omega)])), k.s2.keep rfl rfl (fun j hj => (show wrI (60 * 0) (U.1 0) (wC F2.1 F2.2 (nmR A2.2) (se 0) (se 1) (se 2)) U.2.2.1 (min H0.2.2.1 A2.1) (60 * 2 + j) = U.2.2.1 (60 * 2 + j) by rw [wrI_at, if_neg (by omega)])), k.s3.keep rfl rfl (fun j hj => (show wrI (60 * 0) (U.1 0) (wC F2.1 F2.2 (nmR A2.2) (se 0) (se 1) (se 2)) U.2.2.1 (min H0.2.2.1 A2.1) (60 * 3 + j) = U.2.2.1 (60 * 3 + j) by rw [wrI_at, if_neg (by omega)]))⟩⟩
theorem ag_write1 : Agr isI MX11_write MX12_write [.int (nI 1)] := by
  intro c m hs
  obtain ⟨t0, t1, G, N, T, C, D, P, S, H0, H1, H2, H3, ta, lf, U, B, F, A, se, R, O, V, al, dr, rfl, rfl, k⟩ := hs
  refine ⟨_, ev_write1 t0 t1 G N T C D P S H0 H1 H2 H3 ta lf k.s1.z k.hN.1, ?_⟩
  rintro v c1 (⟨q, rfl, rfl⟩ | ⟨q, rfl, rfl⟩)
  · refine ⟨⟨_, rfl⟩, cw_of _ _ _ _ _ _ _ _ _ _ _ _ _ _ _, Ev.mono (ev_X12_write U lf B F A se R O V al dr 1 (by decide) H1.2.2.1 k.s1.z k.s1.sz _ _ _ _ _ k.ok) ?_⟩
    rintro v2 m1 (⟨q2, rfl, rfl⟩ | ⟨q2, F2, A2, R2, g1, g2, g3, rfl, rfl⟩)
    · exact ⟨rfl, sim_of k⟩
    · exact absurd (k.s1.lost.mp q) q2
  · refine ⟨⟨_, rfl⟩, cw_of _ _ _ _ _ _ _ _ _ _ _ _ _ _ _, Ev.mono (ev_X12_write U lf B F A se R O V al dr 1 (by decide) H1.2.2.1 k.s1.z k.s1.sz _ _ _ _ _ k.ok) ?_⟩
    rintro v2 m1 (⟨q2, rfl, rfl⟩ | ⟨q2, F2, A2, R2, g1, g2, g3, rfl, rfl⟩)
    · exact absurd q (k.s1.lost.mpr q2)
    · have hz := k.s1.z
      have hae := k.ae g2
      have hown := k.s1.write (n := min H1.2.2.1 A2.1) q (Nat.min_le_left _ _) (fun i hi => k.cm g1 g2 i (by omega))
      rw [show min H1.2.2.1 N.1 = min H1.2.2.1 A2.1 by rw [hae]]
      exact ⟨rfl, sim_of ⟨k.c47, k.c12, k.gi, k.ni, k.tt, k.crs, k.pin, k.ss, k.q0, k.q1, k.ok, k.s0.keep rfl rfl (fun j hj => (show wrI (60 * 1) (U.1 1) (wC F2.1 F2.2 (nmR A2.2) (se 0) (se 1) (se 2)) U.2.2.1 (min H1.2.2.1 A2.1) (60 * 0 + j) = U.2.2.1 (60 * 0 + j) by rw [wrI_at, if_neg (by omega)])), hown, k.s2.keep rfl rfl (fun j hj => (show wrI (60 * 1) (U.1 1) (wC F2.1 F2.2 (nmR A2.2) (se 0) (se 1) (se 2)) U.2.2.1 (min H1.2.2.1 A2.1) (60 * 2 + j) = U.2.2.1 (60 * 2 + j) by rw [wrI_at, if_neg (by omega)])), k.s3.keep rfl rfl (fun j hj => (show wrI (60 * 1) (U.1 1) (wC F2.1 F2.2 (nmR A2.2) (se 0) (se 1) (se 2)) U.2.2.1 (min H1.2.2.1 A2.1) (60 * 3 + j) = U.2.2.1 (60 * 3 + j) by rw [wrI_at, if_neg (by omega)]))⟩⟩
theorem ag_write2 : Agr isI MX11_write MX12_write [.int (nI 2)] := by
  intro c m hs
  obtain ⟨t0, t1, G, N, T, C, D, P, S, H0, H1, H2, H3, ta, lf, U, B, F, A, se, R, O, V, al, dr, rfl, rfl, k⟩ := hs
  refine ⟨_, ev_write2 t0 t1 G N T C D P S H0 H1 H2 H3 ta lf k.s2.z k.hN.1, ?_⟩
  rintro v c1 (⟨q, rfl, rfl⟩ | ⟨q, rfl, rfl⟩)
  · refine ⟨⟨_, rfl⟩, cw_of _ _ _ _ _ _ _ _ _ _ _ _ _ _ _, Ev.mono (ev_X12_write U lf B F A se R O V al dr 2 (by decide) H2.2.2.1 k.s2.z k.s2.sz _ _ _ _ _ k.ok) ?_⟩
    rintro v2 m1 (⟨q2, rfl, rfl⟩ | ⟨q2, F2, A2, R2, g1, g2, g3, rfl, rfl⟩)
    · exact ⟨rfl, sim_of k⟩
    · exact absurd (k.s2.lost.mp q) q2
  · refine ⟨⟨_, rfl⟩, cw_of _ _ _ _ _ _ _ _ _ _ _ _ _ _ _, Ev.mono (ev_X12_write U lf B F A se R O V al dr 2 (by decide) H2.2.2.1 k.s2.z k.s2.sz _ _ _ _ _ k.ok) ?_⟩
    rintro v2 m1 (⟨q2, rfl, rfl⟩ | ⟨q2, F2, A2, R2, g1, g2, g3, rfl, rfl⟩)
    · exact absurd q (k.s2.lost.mpr q2)
    · have hz := k.s2.z
      have hae := k.ae g2
      have hown := k.s2.write (n := min H2.2.2.1 A2.1) q (Nat.min_le_left _ _) (fun i hi => k.cm g1 g2 i (by omega))
      rw [show min H2.2.2.1 N.1 = min H2.2.2.1 A2.1 by rw [hae]]
      exact ⟨rfl, sim_of ⟨k.c47, k.c12, k.gi, k.ni, k.tt, k.crs, k.pin, k.ss, k.q0, k.q1, k.ok, k.s0.keep rfl rfl (fun j hj => (show wrI (60 * 2) (U.1 2) (wC F2.1 F2.2 (nmR A2.2) (se 0) (se 1) (se 2)) U.2.2.1 (min H2.2.2.1 A2.1) (60 * 0 + j) = U.2.2.1 (60 * 0 + j) by rw [wrI_at, if_neg (by omega)])), k.s1.keep rfl rfl (fun j hj => (show wrI (60 * 2) (U.1 2) (wC F2.1 F2.2 (nmR A2.2) (se 0) (se 1) (se 2)) U.2.2.1 (min H2.2.2.1 A2.1) (60 * 1 + j) = U.2.2.1 (60 * 1 + j) by rw [wrI_at, if_neg (by omega)])), hown, k.s3.keep rfl rfl (fun j hj => (show wrI (60 * 2) (U.1 2) (wC F2.1 F2.2 (nmR A2.2) (se 0) (se 1) (se 2)) U.2.2.1 (min H2.2.2.1 A2.1) (60 * 3 + j) = U.2.2.1 (60 * 3 + j) by rw [wrI_at, if_neg (by omega)]))⟩⟩
theorem ag_write3 : Agr isI MX11_write MX12_write [.int (nI 3)] := by
  intro c m hs
  obtain ⟨t0, t1, G, N, T, C, D, P, S, H0, H1, H2, H3, ta, lf, U, B, F, A, se, R, O, V, al, dr, rfl, rfl, k⟩ := hs
  refine ⟨_, ev_write3 t0 t1 G N T C D P S H0 H1 H2 H3 ta lf k.s3.z k.hN.1, ?_⟩
  rintro v c1 (⟨q, rfl, rfl⟩ | ⟨q, rfl, rfl⟩)
  · refine ⟨⟨_, rfl⟩, cw_of _ _ _ _ _ _ _ _ _ _ _ _ _ _ _, Ev.mono (ev_X12_write U lf B F A se R O V al dr 3 (by decide) H3.2.2.1 k.s3.z k.s3.sz _ _ _ _ _ k.ok) ?_⟩
    rintro v2 m1 (⟨q2, rfl, rfl⟩ | ⟨q2, F2, A2, R2, g1, g2, g3, rfl, rfl⟩)
    · exact ⟨rfl, sim_of k⟩
    · exact absurd (k.s3.lost.mp q) q2
  · refine ⟨⟨_, rfl⟩, cw_of _ _ _ _ _ _ _ _ _ _ _ _ _ _ _, Ev.mono (ev_X12_write U lf B F A se R O V al dr 3 (by decide) H3.2.2.1 k.s3.z k.s3.sz _ _ _ _ _ k.ok) ?_⟩
    rintro v2 m1 (⟨q2, rfl, rfl⟩ | ⟨q2, F2, A2, R2, g1, g2, g3, rfl, rfl⟩)
    · exact absurd q (k.s3.lost.mpr q2)
    · have hz := k.s3.z
      have hae := k.ae g2
      have hown := k.s3.write (n := min H3.2.2.1 A2.1) q (Nat.min_le_left _ _) (fun i hi => k.cm g1 g2 i (by omega))
      rw [show min H3.2.2.1 N.1 = min H3.2.2.1 A2.1 by rw [hae]]
      exact ⟨rfl, sim_of ⟨k.c47, k.c12, k.gi, k.ni, k.tt, k.crs, k.pin, k.ss, k.q0, k.q1, k.ok, k.s0.keep rfl rfl (fun j hj => (show wrI (60 * 3) (U.1 3) (wC F2.1 F2.2 (nmR A2.2) (se 0) (se 1) (se 2)) U.2.2.1 (min H3.2.2.1 A2.1) (60 * 0 + j) = U.2.2.1 (60 * 0 + j) by rw [wrI_at, if_neg (by omega)])), k.s1.keep rfl rfl (fun j hj => (show wrI (60 * 3) (U.1 3) (wC F2.1 F2.2 (nmR A2.2) (se 0) (se 1) (se 2)) U.2.2.1 (min H3.2.2.1 A2.1) (60 * 1 + j) = U.2.2.1 (60 * 1 + j) by rw [wrI_at, if_neg (by omega)])), k.s2.keep rfl rfl (fun j hj => (show wrI (60 * 3) (U.1 3) (wC F2.1 F2.2 (nmR A2.2) (se 0) (se 1) (se 2)) U.2.2.1 (min H3.2.2.1 A2.1) (60 * 2 + j) = U.2.2.1 (60 * 2 + j) by rw [wrI_at, if_neg (by omega)])), hown⟩⟩
theorem ag_write (x : Int32) : Agr isI MX11_write MX12_write [.int x] := by
  by_cases q : x < 0 ∨ 4 ≤ x
  · intro c m hs
    obtain ⟨t0, t1, G, N, T, C, D, P, S, H0, H1, H2, H3, ta, lf, U, B, F, A, se, R, O, V, al, dr, rfl, rfl, k⟩ := hs
    refine ⟨_, ev_write_bad t0 t1 G N T C D P S H0 H1 H2 H3 ta lf x q, ?_⟩
    rintro v c1 ⟨rfl, rfl⟩
    refine ⟨⟨_, rfl⟩, cw_of _ _ _ _ _ _ _ _ _ _ _ _ _ _ _, Ev.mono (ev_mwrite_bad U lf B F A se R O V al dr x ((sh_iff x).mpr q)) ?_⟩
    rintro v2 m1 ⟨rfl, rfl⟩
    exact ⟨rfl, sim_of k⟩
  · obtain ⟨h1, h2⟩ := in_range (x := x) (n := 4) (fun z => q (Or.inl z)) (fun z => q (Or.inr z)) (by decide)
    rw [h1]
    generalize x.toNatClampNeg = xn at h2 ⊢
    match xn, h2 with
    | 0, _ => exact ag_write0
    | 1, _ => exact ag_write1
    | 2, _ => exact ag_write2
    | 3, _ => exact ag_write3
    | xn + 4, h => exact absurd h (by omega)
