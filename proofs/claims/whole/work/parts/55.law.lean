/-! the law's own world: the class's cells, behind them the model's; the script lies outside -/
def noRef : Value → Bool
  | .ref _ => false
  | _ => true
theorem nr_gv {r : Nat → Nat} {v : Value} (h : noRef v = true) : gv r v = v := by cases v <;> first | rfl | (simp [noRef] at h)
theorem nr_map {r : Nat → Nat} {l : List Value} (h : l.all noRef = true) : l.map (gv r) = l := by
  induction l with
  | nil => rfl
  | cons a l ih =>
    simp only [List.all_cons, Bool.and_eq_true] at h
    rw [List.map_cons, nr_gv h.1, ih h.2]
theorem rn_cg {n : Nat} {r r2 : Nat → Nat} (h : ∀ k, k < n → r k = r2 k) {e : AE} (he : seB n e = true) : rn r e = rn r2 e := by
  match e, he with
  | .inl (m, .inl f), _ => rfl
  | .inl (m, .inr (.inl f)), _ => rfl
  | .inl (m, .inr (.inr l)), he =>
    simp only [rn]
    congr 4
    apply List.map_congr_left
    intro o ho
    have := List.all_eq_true.mp he _ ho
    cases o with
    | none => rfl
    | some k => simp only [Option.map_some]; rw [h k (blt_lt this)]
  | .inr (c, fs), he =>
    simp only [rn]
    congr 2
    apply List.map_congr_left
    intro v hv
    exact svs_gv h (List.all_eq_true.mp he v hv)
def blk (n o : Nat) : List Nat := (List.range n).map (fun j => o + j)
theorem blk_at {n o j : Nat} (h : j < n) : (blk n o)[j]? = some (o + j) := by
  unfold blk
  rw [List.getElem?_map, List.getElem?_range h]
  rfl
theorem blk_len (n o : Nat) : (blk n o).length = n := by simp [blk]
theorem blk_mem {n o k : Nat} (h : k ∈ blk n o) : o ≤ k ∧ k < o + n := by
  simp only [blk, List.mem_map, List.mem_range] at h
  obtain ⟨j, h1, rfl⟩ := h
  omega
theorem blk_nd (n o : Nat) : va_nd (blk n o) = true := by
  have : ∀ l : List Nat, l.Nodup → va_nd l = true := by
    intro l
    induction l with
    | nil => intro _; rfl
    | cons a l ih =>
      intro hl
      rw [List.nodup_cons] at hl
      simp only [va_nd, Bool.and_eq_true, decide_eq_true_eq]
      exact ⟨hl.1, ih hl.2⟩
  apply this
  unfold blk
  rw [List.nodup_iff_pairwise_ne, List.pairwise_map]
  exact List.Pairwise.imp (fun h => by omega) (List.nodup_iff_pairwise_ne.mp List.nodup_range)
theorem rho_blk {n o t j : Nat} (h : j < n) : rho (blk n o) t j = o + j := rho_in (blk_at h)
theorem mgp_blk (r : Nat → Nat) (a d b b1 : List AE) (h : b1.length = b.length) : mgp r (blk b.length a.length) b1 (a ++ (b ++ d)) = a ++ (b1.map (rn r) ++ d) := by
  apply List.ext_getElem?
  intro k
  by_cases h1 : k < a.length
  · rw [mgp_out _ _ _ _ _ (fun q => by have := blk_mem q; omega), List.getElem?_append_left h1, List.getElem?_append_left h1]
  · by_cases h2 : k < a.length + b.length
    · have h3 : k - a.length < b1.length := by omega
      have e := mgp_in r (blk b.length a.length) b1 (a ++ (b ++ d)) (k - a.length) k _ (blk_nd _ _) (by rw [blk_at (by omega)]; congr 1; omega) (List.getElem?_eq_getElem h3) (by rw [List.length_append, List.length_append]; omega)
      rw [e, List.getElem?_append_right (by omega), List.getElem?_append_left (by rw [List.length_map]; exact h3), List.getElem?_map, List.getElem?_eq_getElem h3]
      rfl
    · rw [mgp_out _ _ _ _ _ (fun q => by have := blk_mem q; omega), List.getElem?_append_right (by omega), List.getElem?_append_right (by omega), List.getElem?_append_right (by omega), List.getElem?_append_right (by rw [List.length_map]; omega), List.length_map, h]
section LawCall
variable {X : (Nat → Nat) → State → (Nat → Prop) → Prop} {M z : MD} {Q Qz : Option Value → List AE → Prop} {n0 cn sn pc : Nat} {L : List (Option Value)} {st : List Value}
/-- a call on an object whose cells stand together in the caller's world -/
theorem go_callB {i n ci : Nat} {fs av rest : List Value} (a d b : List AE) (hd : decode M.2.1 pc = .ok (.invokevirtual i, 3)) (hlk : Cond.methodLink M.1.cls i z.1 ∈ tb) (hz : CV z n) (hE : Ev z (.ref 0 :: av) b Qz) (hst : st = av.reverse ++ .ref a.length :: rest) (hav : av.all noRef = true) (hn : av.length = n) (hcl : b.all (seB b.length) = true) (hrc : b[0]? = some (zO ci fs)) (hci : ∃ T N, vwCl[ci]? = some (z.1.cls, T, N)) (hF : fitB M z cn sn = true) (hrest : resB rest = true) (hQ : ∀ v b1, Qz v b1 → b1.length = b.length ∧ b1.all (seB b.length) = true ∧ v.toList.all noRef = true)
    (k : ∀ v b1, Qz v b1 → Go X M Q n0 (cn + z.2.2.2.2.cells) (sn + z.2.2.2.2.slots) (pc + 3) L (v.toList ++ rest) (a ++ (b1.map (rn (fun j => a.length + j)) ++ d))) : Go X M Q n0 cn sn pc L st (a ++ (b.map (rn (fun j => a.length + j)) ++ d)) := by
  have hb0 : 0 < b.length := (List.getElem?_eq_some_iff.mp hrc).1
  have er : ∀ j, j < b.length → rho (blk b.length a.length) (a ++ (b.map (rn (fun j => a.length + j)) ++ d)).length j = a.length + j := fun j hj => rho_blk hj
  refine go_callV (wc := b) (Qz := Qz) (blk b.length a.length) hd hlk hz hE ?_ ?_ (blk_nd _ _) hn hrc hci (fit_of hF) (res_of hrest) (fun v w1 h => by rw [blk_len]; exact (hQ v w1 h).1) (fun v w1 h => ?_)
  · rw [nr_map hav, er 0 hb0]
    exact hst
  · apply List.ext_getElem?
    intro t
    rw [List.getElem?_map, List.getElem?_map]
    by_cases ht : t < b.length
    · rw [blk_at ht, List.getElem?_eq_getElem ht]
      simp only [Option.map_some]
      rw [List.getElem?_append_right (Nat.le_add_right _ _), Nat.add_sub_cancel_left, List.getElem?_append_left (by rw [List.length_map]; exact ht), List.getElem?_map, List.getElem?_eq_getElem ht]
      simp only [Option.map_some]
      rw [rn_cg er (List.all_eq_true.mp hcl _ (List.getElem_mem ht))]
    · rw [List.getElem?_eq_none (by rw [blk_len]; omega), List.getElem?_eq_none (by omega)]
      rfl
  · obtain ⟨h1, h2, h3⟩ := hQ v w1 h
    have e1 : mgp (rho (blk b.length a.length) (a ++ (b.map (rn (fun j => a.length + j)) ++ d)).length) (blk b.length a.length) w1 (a ++ (b.map (rn (fun j => a.length + j)) ++ d)) = a ++ (w1.map (rn (fun j => a.length + j)) ++ d) := by
      have e2 := mgp_blk (rho (blk b.length a.length) (a ++ (b.map (rn (fun j => a.length + j)) ++ d)).length) a d (b.map (rn (fun j => a.length + j))) w1 (by rw [List.length_map]; exact h1)
      rw [List.length_map] at e2
      rw [e2]
      congr 2
      apply List.map_congr_left
      intro e he
      exact rn_cg er (List.all_eq_true.mp h2 _ he)
    have e3 : (v.map (gv (rho (blk b.length a.length) (a ++ (b.map (rn (fun j => a.length + j)) ++ d)).length))).toList = v.toList := by
      rw [toList_map, nr_map h3]
    rw [e1, e3]
    exact k v w1 h
end LawCall
def LW (c m : List AE) : List AE := c.map (rn (fun j => 0 + j)) ++ m.map (rn (fun j => 44 + j))
def XL (b L : Nat) (xs : Nat → Int32) : (Nat → Nat) → State → (Nat → Prop) → Prop := fun ad0 s A => ad0 sid = b ∧ va_X b L xs s s.heap ∧ b < s.heap.size ∧ ¬ A b
section LawRows
variable {b Ln : Nat} {xs : Nat → Int32} {M z : MD} {Q Qz : Option Value → List AE → Prop} {n0 cn sn pc : Nat} {L : List (Option Value)} {st : List Value} {w : List AE}
theorem go_slen (hd : decode M.2.1 pc = .ok (.arraylength, 1)) (k : Go (XL b Ln xs) M Q n0 cn sn (pc + 1) L (.int (nI Ln) :: st) w) : Go (XL b Ln xs) M Q n0 cn sn pc L (.ref sid :: st) w := by
  intro p l e s m args below meth c D ad0 ad tC A H locs ls Z hC hK hX hR hl hZ
  have e1 : ad sid = b := hR.2.2.2.2.2.2.2.trans hX.1
  have := va_slen hC.1 hC.2.1 hX.2.1 hX.2.2.1 hX.2.2.2 hR.2.2.1 hd (k p l e s m args below meth c D ad0 ad tC A H locs ls Z hC hK hX hR hl hZ)
  rw [← e1] at this
  exact this
theorem go_sld {i : Int32} (hd : decode M.2.1 pc = .ok (.iaload, 1)) (hin : vp_in i Ln) (k : Go (XL b Ln xs) M Q n0 cn sn (pc + 1) L (.int (xs i.toNatClampNeg) :: st) w) : Go (XL b Ln xs) M Q n0 cn sn pc L (.int i :: .ref sid :: st) w := by
  intro p l e s m args below meth c D ad0 ad tC A H locs ls Z hC hK hX hR hl hZ
  have e1 : ad sid = b := hR.2.2.2.2.2.2.2.trans hX.1
  have := va_sld hC.1 hC.2.1 hX.2.1 hX.2.2.1 hX.2.2.2 hR.2.2.1 hin hd (k p l e s m args below meth c D ad0 ad tC A H locs ls Z hC hK hX hR hl hZ)
  rw [← e1] at this
  exact this
end LawRows
