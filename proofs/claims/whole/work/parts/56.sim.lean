/-! the class and the model in like states -/
/-- a sheet of the class, and the model's -/
def HEq2 (U : TU) (s : Nat) (H : TH) : Prop := H.2.2.1 ≤ 60 ∧ U.2.1 s = nI H.2.2.1 ∧ (¬ H.1 = 0 ∧ U.1 s < 0 ∨ H.1 = 0 ∧ ¬ U.1 s < 0 ∧ U.1 s = H.2.1 ∧ ∀ i, i < H.2.2.1 → U.2.2.1 (60 * s + i) = H.2.2.2 i)
theorem HEq2.z {U : TU} {s : Nat} {H : TH} (h : HEq2 U s H) : H.2.2.1 ≤ 60 := h.1
theorem HEq2.sz {U : TU} {s : Nat} {H : TH} (h : HEq2 U s H) : U.2.1 s = nI H.2.2.1 := h.2.1
theorem HEq2.lost {U : TU} {s : Nat} {H : TH} (h : HEq2 U s H) : ¬ H.1 = 0 ↔ U.1 s < 0 := by
  rcases h.2.2 with ⟨h1, h2⟩ | ⟨h1, h2, -⟩
  · exact ⟨fun _ => h2, fun _ => h1⟩
  · exact ⟨fun q => absurd h1 q, fun q => absurd q h2⟩
theorem HEq2.form {U : TU} {s : Nat} {H : TH} (h : HEq2 U s H) (h0 : H.1 = 0) : U.1 s = H.2.1 := by
  rcases h.2.2 with ⟨h1, h2⟩ | ⟨h1, h2, h3, -⟩
  · exact absurd h0 h1
  · exact h3
theorem HEq2.item {U : TU} {s : Nat} {H : TH} (h : HEq2 U s H) (h0 : H.1 = 0) : ∀ i, i < H.2.2.1 → U.2.2.1 (60 * s + i) = H.2.2.2 i := by
  rcases h.2.2 with ⟨h1, h2⟩ | ⟨h1, h2, h3, h4⟩
  · exact absurd h0 h1
  · exact h4
/-- the model's sheets changed, but not this one -/
theorem HEq2.keep {U U2 : TU} {s : Nat} {H : TH} (h : HEq2 U s H) (h1 : U2.1 s = U.1 s) (h2 : U2.2.1 s = U.2.1 s) (h3 : ∀ i, i < 60 → U2.2.2.1 (60 * s + i) = U.2.2.1 (60 * s + i)) : HEq2 U2 s H := by
  obtain ⟨a, b, c⟩ := h
  refine ⟨a, h2.trans b, ?_⟩
  rw [h1]
  rcases c with c | ⟨c1, c2, c3, c4⟩
  · exact Or.inl c
  · exact Or.inr ⟨c1, c2, c3, fun i hi => (h3 i (by omega)).trans (c4 i hi)⟩
def Core (t0 t1 : TX) (G N : TG) (T : TT) (C : TC) (P : TP) (S : TS) (H0 H1 H2 H3 : TH) (U : TU) (B : TB2) (se : AF) (V : TX) : Prop :=
  t0.1 ≤ 47 ∧ t1.1 ≤ 12 ∧ GInv t0 G ∧ NInv t1 N ∧ (T.1 ≤ 9 ∧ 1 ≤ T.2.1 ∧ T.2.1 ≤ 8 ∧ T.2.2 ≤ 9) ∧ CrsC G N T C ∧ PInv G T P ∧ (S.1 ≤ 8 ∧ (∀ k, k < S.1 → ∃ j, j < 8 ∧ S.2.1 k = nI j) ∧ SEq S (SV V)) ∧ TEq t0 (T0M t0.1 B) ∧ TEq t1 (T1M t1.1 B) ∧ MOK B se t0.1 t1.1 T.1 T.2.1 T.2.2 ∧ HEq2 U 0 H0 ∧ HEq2 U 1 H1 ∧ HEq2 U 2 H2 ∧ HEq2 U 3 H3
section CoreA
variable {t0 t1 : TX} {G N : TG} {T : TT} {C : TC} {P : TP} {S : TS} {H0 H1 H2 H3 : TH} {U : TU} {B : TB2} {se : AF} {V F A : TX} (k : Core t0 t1 G N T C P S H0 H1 H2 H3 U B se V)
theorem Core.c47 (k : Core t0 t1 G N T C P S H0 H1 H2 H3 U B se V) : t0.1 ≤ 47 := k.1
theorem Core.c12 (k : Core t0 t1 G N T C P S H0 H1 H2 H3 U B se V) : t1.1 ≤ 12 := k.2.1
theorem Core.gi (k : Core t0 t1 G N T C P S H0 H1 H2 H3 U B se V) : GInv t0 G := k.2.2.1
theorem Core.ni (k : Core t0 t1 G N T C P S H0 H1 H2 H3 U B se V) : NInv t1 N := k.2.2.2.1
theorem Core.tt (k : Core t0 t1 G N T C P S H0 H1 H2 H3 U B se V) : T.1 ≤ 9 ∧ 1 ≤ T.2.1 ∧ T.2.1 ≤ 8 ∧ T.2.2 ≤ 9 := k.2.2.2.2.1
theorem Core.crs (k : Core t0 t1 G N T C P S H0 H1 H2 H3 U B se V) : CrsC G N T C := k.2.2.2.2.2.1
theorem Core.pin (k : Core t0 t1 G N T C P S H0 H1 H2 H3 U B se V) : PInv G T P := k.2.2.2.2.2.2.1
theorem Core.ss (k : Core t0 t1 G N T C P S H0 H1 H2 H3 U B se V) : S.1 ≤ 8 ∧ (∀ k, k < S.1 → ∃ j, j < 8 ∧ S.2.1 k = nI j) ∧ SEq S (SV V) := k.2.2.2.2.2.2.2.1
theorem Core.q0 (k : Core t0 t1 G N T C P S H0 H1 H2 H3 U B se V) : TEq t0 (T0M t0.1 B) := k.2.2.2.2.2.2.2.2.1
theorem Core.q1 (k : Core t0 t1 G N T C P S H0 H1 H2 H3 U B se V) : TEq t1 (T1M t1.1 B) := k.2.2.2.2.2.2.2.2.2.1
theorem Core.ok (k : Core t0 t1 G N T C P S H0 H1 H2 H3 U B se V) : MOK B se t0.1 t1.1 T.1 T.2.1 T.2.2 := k.2.2.2.2.2.2.2.2.2.2.1
theorem Core.s0 (k : Core t0 t1 G N T C P S H0 H1 H2 H3 U B se V) : HEq2 U 0 H0 := k.2.2.2.2.2.2.2.2.2.2.2.1
theorem Core.s1 (k : Core t0 t1 G N T C P S H0 H1 H2 H3 U B se V) : HEq2 U 1 H1 := k.2.2.2.2.2.2.2.2.2.2.2.2.1
theorem Core.s2 (k : Core t0 t1 G N T C P S H0 H1 H2 H3 U B se V) : HEq2 U 2 H2 := k.2.2.2.2.2.2.2.2.2.2.2.2.2.1
theorem Core.s3 (k : Core t0 t1 G N T C P S H0 H1 H2 H3 U B se V) : HEq2 U 3 H3 := k.2.2.2.2.2.2.2.2.2.2.2.2.2.2
theorem Core.hG (k : Core t0 t1 G N T C P S H0 H1 H2 H3 U B se V) : G.1 ≤ 8 := k.gi.le k.c47
theorem Core.hN (k : Core t0 t1 G N T C P S H0 H1 H2 H3 U B se V) : NOK N := k.ni.ok k.c12
theorem Core.gok (k : Core t0 t1 G N T C P S H0 H1 H2 H3 U B se V) : GOK G.1 G.2.2 := k.gi.gok k.c47
theorem Core.hT (k : Core t0 t1 G N T C P S H0 H1 H2 H3 U B se V) : T.1 ≤ 9 ∧ T.2.1 ≤ 8 := ⟨k.tt.1, k.tt.2.2.1⟩
theorem Core.sv (k : Core t0 t1 G N T C P S H0 H1 H2 H3 U B se V) : V.1 = S.1 := k.ss.2.2.1.symm
theorem Core.vok (k : Core t0 t1 G N T C P S H0 H1 H2 H3 U B se V) : VOK V := by
  have e : S.1 = V.1 := k.ss.2.2.1
  have h8 := k.ss.1
  refine ⟨by omega, fun t ht => ?_⟩
  obtain ⟨j, h1, h2⟩ := k.ss.2.1 t (by omega)
  exact ⟨j, h1, by rw [← h2]; exact (k.ss.2.2.2 t (by omega)).1.symm⟩
theorem Core.geq (k : Core t0 t1 G N T C P S H0 H1 H2 H3 U B se V) (g : FInv t0.1 B.1 F) : GEq G (GM t0.1 B F) := GEq_of k.q0 k.gi (GM_inv g)
theorem Core.neq (k : Core t0 t1 G N T C P S H0 H1 H2 H3 U B se V) (g : AInv t1.1 (fun i => B.1 (48 + i)) A) : NEq N (NM t1.1 B A) := NEq_of k.q1 k.ni (NM_inv g)
theorem Core.fe (k : Core t0 t1 G N T C P S H0 H1 H2 H3 U B se V) (g : FInv t0.1 B.1 F) : F.1 = G.1 := (k.geq g).1.symm
theorem Core.ae (k : Core t0 t1 G N T C P S H0 H1 H2 H3 U B se V) (g : AInv t1.1 (fun i => B.1 (48 + i)) A) : A.1 = N.1 := (k.neq g).1.symm
theorem Core.pf (k : Core t0 t1 G N T C P S H0 H1 H2 H3 U B se V) (g : FInv t0.1 B.1 F) : ∀ j, j < 5 * G.1 → F.2 j = G.2.2 j := fun j hj => ((k.geq g).2.2 j hj).symm
theorem Core.nm (k : Core t0 t1 G N T C P S H0 H1 H2 H3 U B se V) (g : AInv t1.1 (fun i => B.1 (48 + i)) A) : ∀ i, i < N.1 → nmR A.2 i = nmR N.2.2 i := fun i hi => ((k.neq g).nm i hi).symm
theorem Core.cm (k : Core t0 t1 G N T C P S H0 H1 H2 H3 U B se V) (g : FInv t0.1 B.1 F) (g2 : AInv t1.1 (fun i => B.1 (48 + i)) A) (i : Nat) (hi : i < N.1) : wC F.1 F.2 (nmR A.2) (se 0) (se 1) (se 2) i = C.2.2.2.1 i := by
  rw [k.ok.e0, k.ok.e1, k.ok.e2, k.fe g, wC_cg (k.pf g) (k.nm g2) _ _ _ i hi]
  exact (k.crs.cm i hi).symm
theorem Core.sx (k : Core t0 t1 G N T C P S H0 H1 H2 H3 U B se V) (g : FInv t0.1 B.1 F) (g2 : AInv t1.1 (fun i => B.1 (48 + i)) A) (i : Nat) (hi : i < N.1) : wX F.1 F.2 (nmR A.2) (se 0) (se 1) (se 2) i = C.2.2.2.2.1 i := by
  rw [k.ok.e0, k.ok.e1, k.ok.e2, k.fe g, wX_cg (k.pf g) (k.nm g2) _ _ _ i hi]
  exact (k.crs.sx i hi).symm
theorem Core.wst (k : Core t0 t1 G N T C P S H0 H1 H2 H3 U B se V) (g : FInv t0.1 B.1 F) (g2 : AInv t1.1 (fun i => B.1 (48 + i)) A) (i : Nat) (hi : i ≤ N.1) : (wst F.1 F.2 (nmR A.2) (se 0) (se 1) (se 2) i).1 = C.2.2.2.2.2.1 i ∧ (wst F.1 F.2 (nmR A.2) (se 0) (se 1) (se 2) i).2 = C.2.2.2.2.2.2.1 i := by
  rw [k.ok.e0, k.ok.e1, k.ok.e2, k.fe g, wst_cg (k.pf g) (k.nm g2) _ _ _ i hi]
  exact ⟨(k.crs.sg i hi).symm, (k.crs.wn i hi).symm⟩
theorem Core.wn (k : Core t0 t1 G N T C P S H0 H1 H2 H3 U B se V) (g : FInv t0.1 B.1 F) (g2 : AInv t1.1 (fun i => B.1 (48 + i)) A) (i : Nat) (hi : i ≤ N.1) : wN F.1 F.2 (nmR A.2) (se 0) (se 1) (se 2) i = C.2.2.2.2.2.2.2.2.1 i := by
  rw [k.ok.e0, k.ok.e1, k.ok.e2, k.fe g, wN_cg (k.pf g) (k.nm g2) _ _ _ i hi]
  exact (k.crs.inn i hi).symm
theorem Core.ft (k : Core t0 t1 G N T C P S H0 H1 H2 H3 U B se V) (g : FInv t0.1 B.1 F) (g2 : AInv t1.1 (fun i => B.1 (48 + i)) A) (f : Nat) (hf : f < 8) : wF F.1 F.2 (nmR A.2) (se 0) (se 1) (se 2) A.1 f = C.2.2.2.2.2.2.2.2.2 f := by
  rw [k.ok.e0, k.ok.e1, k.ok.e2, k.fe g, k.ae g2, wF_cg (k.pf g) (k.nm g2) _ _ _ f N.1 (Nat.le_refl _)]
  exact (k.crs.ft f hf).symm
end CoreA
def CW (c : List AE) : Prop := ∃ (t0 t1 : TX) (G N : TG) (T : TT) (C D : TC) (P : TP) (S : TS) (H0 H1 H2 H3 : TH) (ta : Nat → Int32) (lf : Int32), c = cwd t0 t1 G N T C D P S H0 H1 H2 H3 ta lf
theorem cw_of (t0 t1 : TX) (G N : TG) (T : TT) (C D : TC) (P : TP) (S : TS) (H0 H1 H2 H3 : TH) (ta : Nat → Int32) (lf : Int32) : CW (cwd t0 t1 G N T C D P S H0 H1 H2 H3 ta lf) := ⟨t0, t1, G, N, T, C, D, P, S, H0, H1, H2, H3, ta, lf, rfl⟩
def Sim (c m : List AE) : Prop := ∃ (t0 t1 : TX) (G N : TG) (T : TT) (C D : TC) (P : TP) (S : TS) (H0 H1 H2 H3 : TH) (ta : Nat → Int32) (lf : Int32) (U : TU) (B : TB2) (F A : TX) (se : AF) (R : TR) (O : TO) (V : TX) (al : AF) (dr : Int32), c = cwd t0 t1 G N T C D P S H0 H1 H2 H3 ta lf ∧ m = mwd U lf B F A se R O V al dr ∧ Core t0 t1 G N T C P S H0 H1 H2 H3 U B se V
theorem sim_of {t0 t1 : TX} {G N : TG} {T : TT} {C D : TC} {P : TP} {S : TS} {H0 H1 H2 H3 : TH} {ta : Nat → Int32} {lf : Int32} {U : TU} {B : TB2} {F A : TX} {se : AF} {R : TR} {O : TO} {V : TX} {al : AF} {dr : Int32} (k : Core t0 t1 G N T C P S H0 H1 H2 H3 U B se V) : Sim (cwd t0 t1 G N T C D P S H0 H1 H2 H3 ta lf) (mwd U lf B F A se R O V al dr) := ⟨t0, t1, G, N, T, C, D, P, S, H0, H1, H2, H3, ta, lf, U, B, F, A, se, R, O, V, al, dr, rfl, rfl, k⟩
def isI (v : Option Value) : Prop := ∃ r, v = some (.int r)
def isL (v : Option Value) : Prop := ∃ r, v = some (.long r)
/-- the two answer alike, and come to like states -/
def Agr (J : Option Value → Prop) (z1 z2 : MD) (av : List Value) : Prop := ∀ c m, Sim c m → ∃ Q1 : Option Value → List AE → Prop, Ev z1 (.ref 0 :: av) c Q1 ∧ ∀ v c1, Q1 v c1 → J v ∧ CW c1 ∧ Ev z2 (.ref 0 :: av) m (fun v2 m1 => v2 = v ∧ Sim c1 m1)
