section Heap
variable {X : (Nat → Nat) → State → (Nat → Prop) → Prop} {M : MD} {Q : Option Value → List AE → Prop} {n0 cn sn pc : Nat} {L : List (Option Value)} {st : List Value} {w : List AE}
theorem map_at {ad : Nat → Nat} {fs : List Value} {k : Nat} {v : Value} (h : fs[k]? = some v) : (fs.map (gv ad))[k]? = some (gv ad v) := by simp [h]
theorem Rl_set {D : va_G} {tC : Nat → Nat} {A : Nat → Prop} {ad0 ad : Nat → Nat} {s : State} {H H1 : Heap} {locs locs1 : List Loc} {a : Nat} {e : AE} (hR : Rl D tC A n0 ad0 ad w s H locs) (h1 : va_P D vwCl ((gw ad tC w).set a (ad a, ge ad tC e)) H1) (h2 : va_D A ((gw ad tC w).set a (ad a, ge ad tC e))) (h3 : va_S A s.heap H1 locs1) : Rl D tC A n0 ad0 ad (w.set a e) s H1 locs1 := by
  rw [gw_set] at h1 h2
  obtain ⟨-, -, -, g4, g5, g6, g7, g8⟩ := hR
  exact ⟨h1, h2, h3, g4, by rw [List.length_set]; exact g5, g6, fun q => g7 (by rw [← q, List.length_set]), g8⟩
theorem go_getf {i ci f a : Nat} {fs : List Value} {v : Value} (fl : FL M.1.cls i ci f) (hd : decode M.2.1 pc = .ok (.getfield i, 3)) (he : w[a]? = some (zO ci fs)) (hv : fs[f]? = some v) (k : Go X M Q n0 cn sn (pc + 3) L (v :: st) w) : Go X M Q n0 cn sn pc L (.ref a :: st) w := by
  intro p l e s m args below meth c D ad0 ad tC A H locs ls Z hC hK hX hR hl hZ
  obtain ⟨C, T, N, hc, hk, -, hin⟩ := fl
  exact va_get hC.1 hC.2.1 hC.2.2.2.2.2.1 (ck _ _ _ _ hc).1 hC.2.2.2.2.1 hK.1 hR.1 a (gw_at he) hc f hk (hC.2.2.2.2.2.1 _ hin) (fun _ h => h) (map_at hv) hd (k p l e s m args below meth c D ad0 ad tC A H locs ls Z hC hK hX hR hl hZ)
theorem go_putf {i ci f a : Nat} {fs : List Value} {v : Value} (fl : FL M.1.cls i ci f) (hd : decode M.2.1 pc = .ok (.putfield i, 3)) (he : w[a]? = some (zO ci fs)) (hf : ∀ C T N, vwCl[ci]? = some (C, T, N) → (T f).2.2.2 = false) (hn : ∀ ad, narrow (tyT ci f) (gv ad v) = gv ad v) (hfit : ∀ ad, fits (tyT ci f) (gv ad v) = true) (hlen : f < fs.length) (k : Go X M Q n0 cn sn (pc + 3) L st (w.set a (zO ci (fs.set f v)))) : Go X M Q n0 cn sn pc L (v :: .ref a :: st) w := by
  intro p l e s m args below meth c D ad0 ad tC A H locs ls Z hC hK hX hR hl hZ
  obtain ⟨C, T, N, hc, hk, -, hin⟩ := fl
  have h9 := ck _ _ _ _ hc
  refine va_put hC.1 hC.2.1 hC.2.2.2.2.2.1 h9.1 (tyT ci) h9.2.1 h9.2.2 hC.2.2.2.2.1 hK.1 hR.1 hR.2.1 hR.2.2.1 a (gw_at he) hc f hk (hC.2.2.2.2.2.1 _ hin) (fun _ h => h) (hf _ _ _ hc) (h9.2.1 f hk) (hn ad) (hfit ad) (by rw [List.length_map]; exact hlen) hd (fun H1 locs1 h1 h2 h3 => ?_)
  rw [← List.map_set] at h1 h2
  exact k p l e s m args below meth c D ad0 ad tC A H1 locs1 ls Z hC hK hX (Rl_set (e := zO ci (fs.set f v)) hR h1 h2 h3) hl hZ
theorem go_putF {i ci f a : Nat} {fs : List Value} {v : Value} (fl : FL M.1.cls i ci f) (hd : decode M.2.1 pc = .ok (.putfield i, 3)) (he : w[a]? = some (zO ci fs)) (hf : ∀ C T N, vwCl[ci]? = some (C, T, N) → (T f).2.2.2 = true ∧ (T f).1 = M.1.cls) (hi : M.1.name = "<init>") (hn : ∀ ad, narrow (tyT ci f) (gv ad v) = gv ad v) (hfit : ∀ ad, fits (tyT ci f) (gv ad v) = true) (hlen : f < fs.length) (k : Go X M Q n0 cn sn (pc + 3) L st (w.set a (zO ci (fs.set f v)))) : Go X M Q n0 cn sn pc L (v :: .ref a :: st) w := by
  intro p l e s m args below meth c D ad0 ad tC A H locs ls Z hC hK hX hR hl hZ
  obtain ⟨C, T, N, hc, hk, -, hin⟩ := fl
  have h9 := ck _ _ _ _ hc
  refine va_putF hC.1 hC.2.1 hC.2.2.2.2.2.1 h9.1 (tyT ci) h9.2.1 h9.2.2 hC.2.2.2.2.1 hK.1 hR.1 hR.2.1 hR.2.2.1 a (gw_at he) hc f hk (hC.2.2.2.2.2.1 _ hin) (fun _ h => h) (hf _ _ _ hc).1 (hC.2.2.2.2.2.2.2.trans hi) (hf _ _ _ hc).2 (h9.2.1 f hk) (hn ad) (hfit ad) (by rw [List.length_map]; exact hlen) hd (fun H1 locs1 h1 h2 h3 => ?_)
  rw [← List.map_set] at h1 h2
  exact k p l e s m args below meth c D ad0 ad tC A H1 locs1 ls Z hC hK hX (Rl_set (e := zO ci (fs.set f v)) hR h1 h2 h3) hl hZ
theorem go_iald {a n : Nat} {f : Nat → Int32} {i : Int32} (hd : decode M.2.1 pc = .ok (.iaload, 1)) (he : w[a]? = some (zI n f)) (hin : vp_in i n) (k : Go X M Q n0 cn sn (pc + 1) L (.int (f i.toNatClampNeg) :: st) w) : Go X M Q n0 cn sn pc L (.int i :: .ref a :: st) w := by
  intro p l e s m args below meth c D ad0 ad tC A H locs ls Z hC hK hX hR hl hZ
  exact va_iald hC.1 hC.2.1 hK.1 hR.1 a 0 (gw_at he) rfl hin hd (k p l e s m args below meth c D ad0 ad tC A H locs ls Z hC hK hX hR hl hZ)
theorem go_lald {a n : Nat} {f : Nat → Int64} {i : Int32} (hd : decode M.2.1 pc = .ok (.laload, 1)) (he : w[a]? = some (zL n f)) (hin : vp_in i n) (k : Go X M Q n0 cn sn (pc + 1) L (.long (f i.toNatClampNeg) :: st) w) : Go X M Q n0 cn sn pc L (.int i :: .ref a :: st) w := by
  intro p l e s m args below meth c D ad0 ad tC A H locs ls Z hC hK hX hR hl hZ
  exact va_lald hC.1 hC.2.1 hK.1 hR.1 a 1 (gw_at he) rfl hin hd (k p l e s m args below meth c D ad0 ad tC A H locs ls Z hC hK hX hR hl hZ)
theorem go_aald {a n b : Nat} {r : List (Option Nat)} {i : Int32} (hd : decode M.2.1 pc = .ok (.aaload, 1)) (he : w[a]? = some (zR n r)) (hin : vp_in i n) (hv : r.getD i.toNatClampNeg none = some b) (k : Go X M Q n0 cn sn (pc + 1) L (.ref b :: st) w) : Go X M Q n0 cn sn pc L (.int i :: .ref a :: st) w := by
  intro p l e s m args below meth c D ad0 ad tC A H locs ls Z hC hK hX hR hl hZ
  refine va_aldq hC.1 hC.2.1 hK.1 hR.1 a 2 (gw_at he) rfl hin hd ?_
  rw [hv]
  exact k p l e s m args below meth c D ad0 ad tC A H locs ls Z hC hK hX hR hl hZ
theorem go_iast {a n : Nat} {f : Nat → Int32} {i x : Int32} (hd : decode M.2.1 pc = .ok (.iastore, 1)) (he : w[a]? = some (zI n f)) (hin : vp_in i n) (k : Go X M Q n0 cn sn (pc + 1) L st (w.set a (zI n (upd f i.toNatClampNeg x)))) : Go X M Q n0 cn sn pc L (.int x :: .int i :: .ref a :: st) w := by
  intro p l e s m args below meth c D ad0 ad tC A H locs ls Z hC hK hX hR hl hZ
  exact va_iast hC.1 hC.2.1 hK.1 hR.1 hR.2.1 hR.2.2.1 a 0 (gw_at he) rfl hin hd (fun H1 locs1 h1 h2 h3 => k p l e s m args below meth c D ad0 ad tC A H1 locs1 ls Z hC hK hX (Rl_set (e := zI n (upd f i.toNatClampNeg x)) hR h1 h2 h3) hl hZ)
theorem go_last {a n : Nat} {f : Nat → Int64} {i : Int32} {x : Int64} (hd : decode M.2.1 pc = .ok (.lastore, 1)) (he : w[a]? = some (zL n f)) (hin : vp_in i n) (k : Go X M Q n0 cn sn (pc + 1) L st (w.set a (zL n (vp_updL f i.toNatClampNeg x)))) : Go X M Q n0 cn sn pc L (.long x :: .int i :: .ref a :: st) w := by
  intro p l e s m args below meth c D ad0 ad tC A H locs ls Z hC hK hX hR hl hZ
  exact va_last hC.1 hC.2.1 hK.1 hR.1 hR.2.1 hR.2.2.1 a 1 (gw_at he) rfl hin hd (fun H1 locs1 h1 h2 h3 => k p l e s m args below meth c D ad0 ad tC A H1 locs1 ls Z hC hK hX (Rl_set (e := zL n (vp_updL f i.toNatClampNeg x)) hR h1 h2 h3) hl hZ)
theorem refs_set {ad : Nat → Nat} {r : List (Option Nat)} {j b : Nat} (hj : j < r.length) : (fun i => ((r.set j (some b)).getD i none).map ad) = va_up (fun i => (r.getD i none).map ad) j (some (ad b)) := by
  funext i
  simp only [va_up, List.getD_eq_getElem?_getD, List.getElem?_set]
  by_cases h : j = i
  · subst h; simp [hj]
  · rw [if_neg h, if_neg (fun q => h q.symm)]
theorem go_aast {a n b ci : Nat} {r : List (Option Nat)} {fs : List Value} {i : Int32} (hd : decode M.2.1 pc = .ok (.aastore, 1)) (he : w[a]? = some (zR n r)) (hb : w[b]? = some (zO ci fs)) (hc : ∃ T N, vwCl[ci]? = some (RX6, T, N)) (hin : vp_in i n) (hlen : r.length = n) (k : Go X M Q n0 cn sn (pc + 1) L st (w.set a (zR n (r.set i.toNatClampNeg (some b))))) : Go X M Q n0 cn sn pc L (.ref b :: .int i :: .ref a :: st) w := by
  intro p l e s m args below meth c D ad0 ad tC A H locs ls Z hC hK hX hR hl hZ
  obtain ⟨T, N, hc⟩ := hc
  have hj : i.toNatClampNeg < r.length := by rw [hlen]; exact Nat.not_le.mp fun q => hin (Or.inr q)
  refine va_astq hC.1 hC.2.1 hK.1 hR.1 hR.2.1 hR.2.2.1 a 2 b ci (gw_at he) rfl (gw_at hb) hc hin hd (fun H1 locs1 h1 h2 h3 => ?_)
  rw [← refs_set hj] at h1 h2
  exact k p l e s m args below meth c D ad0 ad tC A H1 locs1 ls Z hC hK hX (Rl_set (e := zR n (r.set i.toNatClampNeg (some b))) hR h1 h2 h3) hl hZ
theorem go_alen {a : Nat} {x : Nat × ((Nat → Int32) ⊕ (Nat → Int64) ⊕ List (Option Nat))} (v : Int32) (hd : decode M.2.1 pc = .ok (.arraylength, 1)) (he : w[a]? = some (.inl x)) (hv : Int32.ofNat x.1 = v) (k : Go X M Q n0 cn sn (pc + 1) L (.int v :: st) w) : Go X M Q n0 cn sn pc L (.ref a :: st) w := by
  intro p l e s m args below meth c D ad0 ad tC A H locs ls Z hC hK hX hR hl hZ
  have k := k p l e s m args below meth c D ad0 ad tC A H locs ls Z hC hK hX hR hl hZ
  match x, he, hv with
  | (n, .inl f), he, hv => exact va_alen hC.1 hC.2.1 hK.1 hR.1 a 0 (gw_at he) rfl hv hd k
  | (n, .inr (.inl f)), he, hv => exact va_alen hC.1 hC.2.1 hK.1 hR.1 a 1 (gw_at he) rfl hv hd k
  | (n, .inr (.inr f)), he, hv => exact va_alen hC.1 hC.2.1 hK.1 hR.1 a 2 (gw_at he) rfl hv hd k
/-! returns -/
theorem go_ret {v : Option Value} (hr : rti M pc v) (hc : cn ≤ M.2.2.2.2.cells) (hs : sn ≤ M.2.2.2.2.slots) (hQ : Q v w) : Go X M Q n0 cn sn pc L v.toList w := by
  intro p l e s m args below meth c D ad0 ad tC A H locs ls Z hC hK hX hR hl hZ
  have h := hZ v w ad H locs ls pc hQ hR hr
  refine W.widen hc hs ?_
  have e1 : (v.map (gv ad)).toList = v.toList.map (gv ad) := by cases v <;> rfl
  rw [← e1]
  exact h
theorem go_ireturn {x : Int32} {ty : FieldType} (hd : decode M.2.1 pc = .ok (.ireturn, 1)) (ht : M.2.2.2.1 = some ty) (hn : narrow ty (.int x) = .int x) (hc : cn ≤ M.2.2.2.2.cells) (hs : sn ≤ M.2.2.2.2.slots) (hQ : Q (some (.int x)) w) : Go X M Q n0 cn sn pc L [.int x] w :=
  go_ret (v := some (.int x)) ⟨hd, ty, ht, hn⟩ hc hs hQ
theorem go_lreturn {x : Int64} (hd : decode M.2.1 pc = .ok (.lreturn, 1)) (ht : M.2.2.2.1 = some .long) (hc : cn ≤ M.2.2.2.2.cells) (hs : sn ≤ M.2.2.2.2.slots) (hQ : Q (some (.long x)) w) : Go X M Q n0 cn sn pc L [.long x] w :=
  go_ret (v := some (.long x)) ⟨hd, ht⟩ hc hs hQ
theorem go_areturn {a : Nat} {n : String} (hd : decode M.2.1 pc = .ok (.areturn, 1)) (ht : M.2.2.2.1 = some (.object n)) (hc : cn ≤ M.2.2.2.2.cells) (hs : sn ≤ M.2.2.2.2.slots) (hQ : Q (some (.ref a)) w) : Go X M Q n0 cn sn pc L [.ref a] w :=
  go_ret (v := some (.ref a)) ⟨hd, n, ht⟩ hc hs hQ
theorem go_return (hd : decode M.2.1 pc = .ok (.return_, 1)) (ht : M.2.2.2.1 = none) (hc : cn ≤ M.2.2.2.2.cells) (hs : sn ≤ M.2.2.2.2.slots) (hQ : Q none w) : Go X M Q n0 cn sn pc L [] w :=
  go_ret (v := none) ⟨hd, ht⟩ hc hs hQ
/-! Math -/
theorem go_min {i : Nat} {x y : Int32} (hd : decode M.2.1 pc = .ok (.invokestatic i, 3)) (hl2 : Cond.methodLink M.1.cls i yJ9_min_7cf53 ∈ tb) (hf : 1 ≤ M.2.2.2.2.frames) (hlo : (st.map fun v => v.category).sum + 13 ≤ M.2.2.2.2.locals) (hc : cn ≤ M.2.2.2.2.cells) (hs : sn ≤ M.2.2.2.2.slots) (k : Go X M Q n0 cn sn (pc + 3) L (.int (if y < x then y else x) :: st) w) : Go X M Q n0 cn sn pc L (.int y :: .int x :: st) w := by
  intro p l e s m args below meth c D ad0 ad tC A H locs ls Z hC hK hX hR hl hZ
  have e1 : (st.map (gv ad)).map (fun v => v.category) = st.map fun v => v.category := by simp [gv_cat]
  exact va_mmin hC.1 hC.2.1 (hC.2.2.1.trans hl.1.symm) hC.2.2.2.2.1 (hC.2.2.2.2.2.1 _ hl2) (hC.2.2.2.2.2.1 _ sJ9_min_7cf53) (hC.2.2.2.2.2.1 _ in_J9) (hC.2.2.2.2.2.1 _ wJ9_min_7cf53) hf (by rw [e1]; exact hlo) hc hs hd (k p l e s m args below meth c D ad0 ad tC A H locs ls Z hC hK hX hR hl hZ)
theorem go_max {i : Nat} {x y : Int32} (hd : decode M.2.1 pc = .ok (.invokestatic i, 3)) (hl2 : Cond.methodLink M.1.cls i yJ9_max_7cf53 ∈ tb) (hf : 1 ≤ M.2.2.2.2.frames) (hlo : (st.map fun v => v.category).sum + 13 ≤ M.2.2.2.2.locals) (hc : cn ≤ M.2.2.2.2.cells) (hs : sn ≤ M.2.2.2.2.slots) (k : Go X M Q n0 cn sn (pc + 3) L (.int (if x < y then y else x) :: st) w) : Go X M Q n0 cn sn pc L (.int y :: .int x :: st) w := by
  intro p l e s m args below meth c D ad0 ad tC A H locs ls Z hC hK hX hR hl hZ
  have e1 : (st.map (gv ad)).map (fun v => v.category) = st.map fun v => v.category := by simp [gv_cat]
  exact va_mmax hC.1 hC.2.1 (hC.2.2.1.trans hl.1.symm) hC.2.2.2.2.1 (hC.2.2.2.2.2.1 _ hl2) (hC.2.2.2.2.2.1 _ sJ9_max_7cf53) (hC.2.2.2.2.2.1 _ in_J9) (hC.2.2.2.2.2.1 _ wJ9_max_7cf53) hf (by rw [e1]; exact hlo) hc hs hd (k p l e s m args below meth c D ad0 ad tC A H locs ls Z hC hK hX hR hl hZ)
theorem go_lmax {i : Nat} {x y : Int64} (hd : decode M.2.1 pc = .ok (.invokestatic i, 3)) (hl2 : Cond.methodLink M.1.cls i yJ9_max_f86c9 ∈ tb) (hf : 1 ≤ M.2.2.2.2.frames) (hlo : (st.map fun v => v.category).sum + 15 ≤ M.2.2.2.2.locals) (hc : cn ≤ M.2.2.2.2.cells) (hs : sn ≤ M.2.2.2.2.slots) (k : Go X M Q n0 cn sn (pc + 3) L (.long (if y < x then x else y) :: st) w) : Go X M Q n0 cn sn pc L (.long y :: .long x :: st) w := by
  intro p l e s m args below meth c D ad0 ad tC A H locs ls Z hC hK hX hR hl hZ
  have e1 : (st.map (gv ad)).map (fun v => v.category) = st.map fun v => v.category := by simp [gv_cat]
  exact va_mmax_long hC.1 hC.2.1 (hC.2.2.1.trans hl.1.symm) hC.2.2.2.2.1 (hC.2.2.2.2.2.1 _ hl2) (hC.2.2.2.2.2.1 _ sJ9_max_f86c9) (hC.2.2.2.2.2.1 _ in_J9) (hC.2.2.2.2.2.1 _ wJ9_max_f86c9) hf (by rw [e1]; exact hlo) hc hs hd (k p l e s m args below meth c D ad0 ad tC A H locs ls Z hC hK hX hR hl hZ)
end Heap
