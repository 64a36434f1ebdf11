/-! new cells -/
def sv (n : Nat) : Value → Bool
  | .ref k => Nat.blt k n || Nat.beq k sid
  | _ => true
def svs (n : Nat) : Value → Bool
  | .ref k => Nat.blt k n
  | _ => true
def seB (n : Nat) : AE → Bool
  | .inr (_, fs) => fs.all (svs n)
  | .inl (_, .inr (.inr l)) => l.all (fun o => match o with
    | some k => Nat.blt k n
    | none => true)
  | _ => true
def soB (n : Nat) : Option Value → Bool
  | some v => sv n v
  | none => true
def scB (n : Nat) (w : List AE) (L : List (Option Value)) (st : List Value) : Bool := w.all (seB n) && L.all (soB n) && st.all (sv n)
theorem blt_lt {a b : Nat} (h : Nat.blt a b = true) : a < b := Nat.le_of_ble_eq_true h
theorem svs_gv {n : Nat} {ad ad' : Nat → Nat} (h : ∀ k, k < n → ad k = ad' k) {v : Value} (hv : svs n v = true) : gv ad v = gv ad' v := by
  cases v <;> first | rfl | (simp only [gv]; rw [h _ (blt_lt hv)])
theorem sv_gv {n : Nat} {ad ad' : Nat → Nat} (h : ∀ k, k < n → ad k = ad' k) (hs : ad sid = ad' sid) {v : Value} (hv : sv n v = true) : gv ad v = gv ad' v := by
  cases v <;> first | rfl | skip
  rename_i k
  simp only [sv, Bool.or_eq_true] at hv
  simp only [gv]
  rcases hv with hv | hv
  · rw [h _ (blt_lt hv)]
  · rw [Nat.eq_of_beq_eq_true hv, hs]
theorem se_ge {n : Nat} {ad ad' tC : Nat → Nat} (h : ∀ k, k < n → ad k = ad' k) {e : AE} (he : seB n e = true) : ge ad tC e = ge ad' tC e := by
  match e, he with
  | .inl (m, .inl f), _ => rfl
  | .inl (m, .inr (.inl f)), _ => rfl
  | .inl (m, .inr (.inr l)), he =>
    simp only [ge]
    congr 7
    funext i
    simp only [List.getD_eq_getElem?_getD]
    cases hi : l[i]? with
    | none => rfl
    | some o =>
      cases o with
      | none => rfl
      | some k =>
        have := List.all_eq_true.mp he _ (List.mem_of_getElem? hi)
        simp only [Option.getD_some, Option.map_some]
        rw [h k (blt_lt this)]
  | .inr (c, fs), he =>
    simp only [ge]
    congr 2
    apply List.map_congr_left
    intro v hv
    exact svs_gv h (List.all_eq_true.mp he v hv)
theorem gw_congr {n : Nat} {ad ad' tC : Nat → Nat} {w : List AE} (h : ∀ k, k < n → ad k = ad' k) (hl : w.length ≤ n) (hw : w.all (seB n) = true) : gw ad tC w = gw ad' tC w := by
  apply List.ext_getElem?
  intro k
  simp only [gw, List.getElem?_mapIdx]
  cases hk : w[k]? with
  | none => rfl
  | some e =>
    have hlt := (List.getElem?_eq_some_iff.mp hk).1
    simp only [Option.map_some]
    rw [h k (by omega), se_ge h (List.all_eq_true.mp hw _ (List.mem_of_getElem? hk))]
theorem lh_congr {n : Nat} {ad ad' : Nat → Nat} {ls : Array Slot} {nL : Nat} {L : List (Option Value)} (h : ∀ k, k < n → ad k = ad' k) (hs : ad sid = ad' sid) (hL : L.all (soB n) = true) (hl : lh ls nL ad L) : lh ls nL ad' L := by
  refine lv_mono hl fun q hq => ?_
  obtain ⟨k, v, h1, rfl⟩ := gl_mem.mp hq
  have h2 := List.all_eq_true.mp hL _ (List.mem_of_getElem? h1)
  rw [← sv_gv h hs h2]
  exact gl_mem.mpr ⟨k, v, h1, rfl⟩
theorem st_congr {n : Nat} {ad ad' : Nat → Nat} {st : List Value} (h : ∀ k, k < n → ad k = ad' k) (hs : ad sid = ad' sid) (hst : st.all (sv n) = true) : st.map (gv ad) = st.map (gv ad') := by
  apply List.map_congr_left
  intro v hv
  exact sv_gv h hs (List.all_eq_true.mp hst v hv)
theorem gw_app {ad tC : Nat → Nat} {w : List AE} {e : AE} : gw ad tC (w ++ [e]) = gw ad tC w ++ [(ad w.length, ge ad tC e)] := by
  simp only [gw, List.mapIdx_append, List.mapIdx_cons, List.mapIdx_nil, Nat.zero_add]
section New
variable {X : (Nat → Nat) → State → (Nat → Prop) → Prop} {M z : MD} {Q Qz : Option Value → List AE → Prop} {n0 cn sn pc : Nat} {L : List (Option Value)} {st : List Value} {w wc : List AE}
variable {p : Program} {l : Launch} {e : Env} {s : State} {m : MethodId} {args : Array Value} {below : List Frame} {meth : Method} {c : Code} {D : va_G} {ad0 ad tC : Nat → Nat} {A : Nat → Prop} {H : Heap} {locs : List Loc} {ls : Array Slot} {Z : State → Prop}
/-- the world with one cell more, at q -/
theorem Rl_new {H1 : Heap} {q : Nat} {en : AE} (hR : Rl D tC A n0 ad0 ad w s H locs) (hsc : w.all (seB w.length) = true) (hen : ∀ ad ad' : Nat → Nat, ge ad tC en = ge ad' tC en) (hlim : w.length < sid) (h1 : va_P D vwCl (gw ad tC w ++ [(q, ge ad tC en)]) H1) (h2 : va_D A (gw ad tC w ++ [(q, ge ad tC en)])) (h3 : va_S A s.heap H1 locs) : Rl D tC A n0 ad0 (va_up ad w.length q) (w ++ [en]) s H1 locs := by
  have hc : ∀ k, k < w.length → ad k = va_up ad w.length q k := fun k hk => (va_up_ne ad q (by omega)).symm
  have e1 : gw (va_up ad w.length q) tC (w ++ [en]) = gw ad tC w ++ [(q, ge ad tC en)] := by
    rw [gw_app, va_up_self, ← gw_congr hc (Nat.le_refl _) hsc, hen (va_up ad w.length q) ad]
  obtain ⟨-, -, -, g4, g5, g6, g7, g8⟩ := hR
  refine ⟨by rw [e1]; exact h1, by rw [e1]; exact h2, h3, g4, by simp; omega, fun k hk => ?_, fun hk => ?_, ?_⟩
  · rw [← hc k (by omega)]; exact g6 k hk
  · simp at hk; omega
  · rw [va_up_ne ad q (by omega)]; exact g8
theorem go_new {i ci nw : Nat} {C : String} {T : u_T} {N : Nat} (fs : List Value) (hd : decode M.2.1 pc = .ok (.new i, 3)) (hcl : Cond.classLink M.1.cls i C ∈ tb) (hi : Cond.instantiable C N ∈ tb) (hini : Cond.initialized C ∈ tb) (hc : vwCl[ci]? = some (C, T, N)) (hfs : ∀ j, j < N → defaultValue (tyT ci j) = vp_V fs j) (hfv : ∀ ad : Nat → Nat, fs.map (gv ad) = fs) (hcn : cn + 1 ≤ M.2.2.2.2.cells) (hsn : sn + N ≤ M.2.2.2.2.slots) (hnw : w.length = nw) (hlim : nw < sid) (hsc : scB nw w L st = true)
    (k : Go X M Q n0 (cn + 1) (sn + N) (pc + 3) L (.ref nw :: st) (w ++ [zO ci fs])) : Go X M Q n0 cn sn pc L st w := by
  intro p l e s m args below meth c D ad0 ad tC A H locs ls Z hC hK hX hR hl hZ
  subst hnw
  have hts := hC.2.2.2.2.2.1
  have h9 := ck _ _ _ _ hc
  simp only [scB, Bool.and_eq_true] at hsc
  refine va_new hC.1 hC.2.1 hts h9.1 (tyT ci) h9.2.1 hC.2.2.2.2.1 (hts _ hcl) (hts _ hi) (hts _ hini) hK.1 hR.1 hR.2.1 hR.2.2.1 hR.2.2.2.1 hc hfs hcn hsn hd (fun q H1 h1 h2 h3 => ?_)
  have hcg : ∀ k, k < w.length → ad k = va_up ad w.length q k := fun k hk => (va_up_ne ad q (by omega)).symm
  have hcs : ad sid = va_up ad w.length q sid := (va_up_ne ad q (by omega)).symm
  have hen : ∀ a : Nat → Nat, ge a tC (zO ci fs) = .inr (ci, fs) := fun a => by show _ = _; simp only [ge]; rw [hfv a]
  have hR' := Rl_new (en := zO ci fs) hR hsc.1.1 (fun a a' => by rw [hen a, hen a']) hlim (by rw [hen]; exact h1) (by rw [hen]; exact h2) h3
  have := k p l e s m args below meth c D ad0 (va_up ad w.length q) tC A H1 locs ls Z hC hK hX hR' (lh_congr hcg hcs hsc.1.2 hl) hZ
  rw [List.map_cons, ← st_congr hcg hcs hsc.2] at this
  simp only [gv, va_up_self] at this
  exact this
theorem tC_int (hK : KK D tC s) {cA : ClassId} {ty : FieldType} {t0 : Nat} (hp : ∀ C, ty ≠ .object C) (h0 : [(tC 0, FieldType.int), (tC 1, .long), (tC 2, .object RX6)][t0]? = some (tC t0, ty)) (h : va_K D vwCl ([(tC 0, .int), (tC 1, .long), (tC 2, .object RX6)] ++ [(cA, ty)]) s) : cA = tC t0 := by
  have h1 := (hK.1.2 t0 _ h0).2
  have h2 := (h.2 3 (cA, ty) rfl).2
  cases ty with
  | object C => exact absurd rfl (hp C)
  | _ =>
    have h1 : s.vm.findClass _ = some (tC t0) := h1
    have h2 : s.vm.findClass _ = some cA := h2
    exact Option.some.inj (h2.symm.trans h1)
theorem go_newI {nw : Nat} {n : Int32} (N : Nat) (hd : decode M.2.1 pc = .ok (.newarray .int, 2)) (hn : n = nI N) (hN : N < 1000000) (hcn : cn + 1 ≤ M.2.2.2.2.cells) (hsn : sn + N ≤ M.2.2.2.2.slots) (hnw : w.length = nw) (hlim : nw < sid) (hsc : scB nw w L st = true)
    (k : Go X M Q n0 (cn + 1) (sn + N) (pc + 2) L (.ref nw :: st) (w ++ [zI N (fun _ => 0)])) : Go X M Q n0 cn sn pc L (.int n :: st) w := by
  intro p l e s m args below meth c D ad0 ad tC A H locs ls Z hC hK hX hR hl hZ
  subst hnw; subst hn
  have hts := hC.2.2.2.2.2.1
  simp only [scB, Bool.and_eq_true] at hsc
  refine va_newa (atype := .int) (ty := .int) (a0 := (N, .inl (fun _ => 0))) hC.1 hC.2.1 (hts _ ac_int) rfl hK.1 hR.1 hR.2.1 hR.2.2.1 hR.2.2.2.1 (fun cA => rfl) (nI_pos (by omega)) (nI_clamp (by omega)) (by show N * 4 ≤ _; omega) hcn hsn hd (fun q cA H1 hK' h1 h2 h3 => ?_)
  have hcA : cA = tC 0 := tC_int hK (fun C h => by cases h) rfl hK'
  subst hcA
  have hcg : ∀ k, k < w.length → ad k = va_up ad w.length q k := fun k hk => (va_up_ne ad q (by omega)).symm
  have hcs : ad sid = va_up ad w.length q sid := (va_up_ne ad q (by omega)).symm
  have hR' := Rl_new (en := zI N (fun _ => 0)) hR hsc.1.1 (fun a a' => rfl) hlim h1 h2 h3
  have := k p l e s m args below meth c D ad0 (va_up ad w.length q) tC A H1 locs ls Z hC hK hX hR' (lh_congr hcg hcs hsc.1.2 hl) hZ
  rw [List.map_cons, ← st_congr hcg hcs hsc.2] at this
  simp only [gv, va_up_self] at this
  exact this
theorem go_newL {nw : Nat} {n : Int32} (N : Nat) (hd : decode M.2.1 pc = .ok (.newarray .long, 2)) (hn : n = nI N) (hN : N < 1000000) (hcn : cn + 1 ≤ M.2.2.2.2.cells) (hsn : sn + N ≤ M.2.2.2.2.slots) (hnw : w.length = nw) (hlim : nw < sid) (hsc : scB nw w L st = true)
    (k : Go X M Q n0 (cn + 1) (sn + N) (pc + 2) L (.ref nw :: st) (w ++ [zL N (fun _ => 0)])) : Go X M Q n0 cn sn pc L (.int n :: st) w := by
  intro p l e s m args below meth c D ad0 ad tC A H locs ls Z hC hK hX hR hl hZ
  subst hnw; subst hn
  have hts := hC.2.2.2.2.2.1
  simp only [scB, Bool.and_eq_true] at hsc
  refine va_newa (atype := .long) (ty := .long) (a0 := (N, .inr (.inl (fun _ => 0)))) hC.1 hC.2.1 (hts _ ac_long) rfl hK.1 hR.1 hR.2.1 hR.2.2.1 hR.2.2.2.1 (fun cA => rfl) (nI_pos (by omega)) (nI_clamp (by omega)) (by show N * 8 ≤ _; omega) hcn hsn hd (fun q cA H1 hK' h1 h2 h3 => ?_)
  have hcA : cA = tC 1 := tC_int hK (fun C h => by cases h) rfl hK'
  subst hcA
  have hcg : ∀ k, k < w.length → ad k = va_up ad w.length q k := fun k hk => (va_up_ne ad q (by omega)).symm
  have hcs : ad sid = va_up ad w.length q sid := (va_up_ne ad q (by omega)).symm
  have hR' := Rl_new (en := zL N (fun _ => 0)) hR hsc.1.1 (fun a a' => rfl) hlim h1 h2 h3
  have := k p l e s m args below meth c D ad0 (va_up ad w.length q) tC A H1 locs ls Z hC hK hX hR' (lh_congr hcg hcs hsc.1.2 hl) hZ
  rw [List.map_cons, ← st_congr hcg hcs hsc.2] at this
  simp only [gv, va_up_self] at this
  exact this
theorem go_newR {nw i : Nat} {n : Int32} (N : Nat) (hd : decode M.2.1 pc = .ok (.anewarray i, 3)) (hcl : Cond.classLink M.1.cls i RX6 ∈ tb) (hn : n = nI N) (hN : N < 1000000) (hcn : cn + 1 ≤ M.2.2.2.2.cells) (hsn : sn + N ≤ M.2.2.2.2.slots) (hnw : w.length = nw) (hlim : nw < sid) (hsc : scB nw w L st = true)
    (k : Go X M Q n0 (cn + 1) (sn + N) (pc + 3) L (.ref nw :: st) (w ++ [zR N (List.replicate N none)])) : Go X M Q n0 cn sn pc L (.int n :: st) w := by
  intro p l e s m args below meth c D ad0 ad tC A H locs ls Z hC hK hX hR hl hZ
  subst hnw; subst hn
  have hts := hC.2.2.2.2.2.1
  simp only [scB, Bool.and_eq_true] at hsc
  refine va_newq hC.1 hC.2.1 hC.2.2.2.2.1 (hts _ hcl) hK.2.2 hK.1 hR.1 hR.2.1 hR.2.2.1 hR.2.2.2.1 (nI_pos (by omega)) (nI_clamp (by omega)) (by omega) hcn hsn hd (fun q cA H1 hK' h1 h2 h3 => ?_)
  have hcA : cA = tC 2 := by
    obtain ⟨_, _, _, _, _, a5⟩ := (hK.1.2 2 (tC 2, .object RX6) rfl).2
    obtain ⟨_, _, _, _, _, b5⟩ := (hK'.2 3 (cA, .object RX6) rfl).2
    exact Option.some.inj (b5.symm.trans a5)
  subst hcA
  have hcg : ∀ k, k < w.length → ad k = va_up ad w.length q k := fun k hk => (va_up_ne ad q (by omega)).symm
  have hcs : ad sid = va_up ad w.length q sid := (va_up_ne ad q (by omega)).symm
  have hen : ∀ a : Nat → Nat, ge a tC (zR N (List.replicate N none)) = .inl (tC 2, N, .inr (.inr (.inr (.inr (fun _ => none))))) := fun a => by
    show _ = _
    simp only [ge]
    congr 7
    funext j
    simp only [List.getD_eq_getElem?_getD, List.getElem?_replicate]
    split <;> rfl
  have hR' := Rl_new (en := zR N (List.replicate N none)) hR hsc.1.1 (fun a a' => by rw [hen a, hen a']) hlim (by rw [hen]; exact h1) (by rw [hen]; exact h2) h3
  have := k p l e s m args below meth c D ad0 (va_up ad w.length q) tC A H1 locs ls Z hC hK hX hR' (lh_congr hcg hcs hsc.1.2 hl) hZ
  rw [List.map_cons, ← st_congr hcg hcs hsc.2] at this
  simp only [gv, va_up_self] at this
  exact this
theorem go_objInit {i a : Nat} (hd : decode M.2.1 pc = .ok (.invokespecial i, 3)) (hlk : Cond.methodLink M.1.cls i objectInit ∈ tb) (hoi : Cond.instanceMethod objectInit ∈ tb) (hoc : Cond.code objectInit ⟨#[0xb1]⟩ 1 none ∈ tb) (hf : 1 ≤ M.2.2.2.2.frames) (hlo : (st.map fun v => v.category).sum + 12 ≤ M.2.2.2.2.locals) (k : Go X M Q n0 cn sn (pc + 3) L st w) : Go X M Q n0 cn sn pc L (.ref a :: st) w := by
  intro p l e s m args below meth c D ad0 ad tC A H locs ls Z hC hK hX hR hl hZ
  have hts := hC.2.2.2.2.2.1
  have e1 : (st.map (gv ad)).map (fun v => v.category) = st.map fun v => v.category := by simp [gv_cat]
  exact W.objInit hC.1 hC.2.1 hC.2.2.2.2.1 (hts _ hlk) (hts _ hoi) (hts _ hoc) rfl (by rw [hC.2.2.1]; exact hl.1) rfl hd hf (by show 2 * 0 + _ + 12 ≤ _; rw [e1]; omega) (k p l e s m args below meth c D ad0 ad tC A H locs ls Z hC hK hX hR hl hZ)
/-- cells that nobody needs any more -/
theorem go_drop {g : List AE} (h0 : w.length = n0) (hsc : scB n0 w L st = true) (k : Go X M Q n0 cn sn pc L st w) : Go X M Q n0 cn sn pc L st (w ++ g) := by
  intro p l e s m args below meth c D ad0 ad tC A H locs ls Z hC hK hX hR hl hZ
  simp only [scB, Bool.and_eq_true] at hsc
  obtain ⟨g1, g2, g3, g4, g5, g6, g7, g8⟩ := hR
  have hcg : ∀ k, k < n0 → ad k = ad0 k := g6
  have e1 : gw ad tC w = gw ad0 tC w := gw_congr hcg (by omega) hsc.1.1
  have hat : ∀ k e, w[k]? = some e → (w ++ g)[k]? = some e := fun k e he => by
    rw [List.getElem?_append_left (List.getElem?_eq_some_iff.mp he).1]; exact he
  have hR' : Rl D tC A n0 ad0 ad0 w s H locs := by
    refine ⟨?_, ?_, g3, g4, by omega, fun _ _ => rfl, fun _ => rfl, rfl⟩
    · rw [← e1]
      exact gw_P.mpr fun k e he => gw_P.mp g1 k e (hat k e he)
    · rw [← e1]
      have h2 := gw_D.mp g2
      have hl2 : w.length ≤ (w ++ g).length := by simp
      exact gw_D.mpr ⟨fun i j hi hj => h2.1 i j (by omega) (by omega), fun k hk => h2.2 k (by omega)⟩
  have := k p l e s m args below meth c D ad0 ad0 tC A H locs ls Z hC hK hX hR' (lh_congr hcg g8 hsc.1.2 hl) hZ
  rw [← st_congr hcg g8 hsc.2] at this
  exact this
end New
