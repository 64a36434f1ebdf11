/-! LOCAL WORLDS: a list of cells; a reference is a place in the list; where the cells lie is told by ad -/
abbrev AE : Type := (Nat × ((Nat → Int32) ⊕ (Nat → Int64) ⊕ List (Option Nat))) ⊕ (Nat × List Value)
abbrev zI (n : Nat) (f : Nat → Int32) : AE := .inl (n, .inl f)
abbrev zL (n : Nat) (f : Nat → Int64) : AE := .inl (n, .inr (.inl f))
abbrev zR (n : Nat) (l : List (Option Nat)) : AE := .inl (n, .inr (.inr l))
abbrev zO (c : Nat) (fs : List Value) : AE := .inr (c, fs)
def sid : Nat := 1000000
def gv (ad : Nat → Nat) : Value → Value
  | .ref k => .ref (ad k)
  | .int x => .int x
  | .long x => .long x
  | .null => .null
  | .float x => .float x
  | .double x => .double x
  | .retAddr x => .retAddr x
theorem gv_cat (ad : Nat → Nat) (v : Value) : (gv ad v).category = v.category := by cases v <;> rfl
theorem gv_gv (ad r : Nat → Nat) (v : Value) : gv ad (gv r v) = gv (fun k => ad (r k)) v := by cases v <;> rfl
def ge (ad tC : Nat → Nat) : AE → va_E
  | .inl (n, .inl f) => .inl (tC 0, n, .inl f)
  | .inl (n, .inr (.inl f)) => .inl (tC 1, n, .inr (.inl f))
  | .inl (n, .inr (.inr l)) => .inl (tC 2, n, .inr (.inr (.inr (.inr (fun i => (l.getD i none).map ad)))))
  | .inr (c, fs) => .inr (c, fs.map (gv ad))
def rn (r : Nat → Nat) : AE → AE
  | .inl (n, .inl f) => .inl (n, .inl f)
  | .inl (n, .inr (.inl f)) => .inl (n, .inr (.inl f))
  | .inl (n, .inr (.inr l)) => .inl (n, .inr (.inr (l.map (Option.map r))))
  | .inr (c, fs) => .inr (c, fs.map (gv r))
theorem ge_rn (ad tC r : Nat → Nat) (e : AE) : ge ad tC (rn r e) = ge (fun k => ad (r k)) tC e := by
  match e with
  | .inl (n, .inl f) => rfl
  | .inl (n, .inr (.inl f)) => rfl
  | .inl (n, .inr (.inr l)) =>
    simp only [rn, ge]
    congr 7
    funext i
    simp only [List.getD_eq_getElem?_getD, List.getElem?_map]
    cases l[i]? with
    | none => rfl
    | some o => cases o <;> rfl
  | .inr (c, fs) =>
    simp only [rn, ge, List.map_map]
    congr 3
    funext v
    exact gv_gv ad r v
def gw (ad tC : Nat → Nat) (w : List AE) : va_W := w.mapIdx (fun k e => (ad k, ge ad tC e))
theorem gw_at {ad tC : Nat → Nat} {w : List AE} {k : Nat} {e : AE} (h : w[k]? = some e) : (gw ad tC w)[k]? = some (ad k, ge ad tC e) := by
  simp [gw, List.getElem?_mapIdx, h]
theorem gw_inv {ad tC : Nat → Nat} {w : List AE} {k : Nat} {q : Nat × va_E} (h : (gw ad tC w)[k]? = some q) : ∃ e, w[k]? = some e ∧ q = (ad k, ge ad tC e) := by
  simp only [gw, List.getElem?_mapIdx, Option.map_eq_some_iff] at h
  obtain ⟨e, h1, h2⟩ := h
  exact ⟨e, h1, h2.symm⟩
theorem gw_len (ad tC : Nat → Nat) (w : List AE) : (gw ad tC w).length = w.length := by simp [gw]
theorem gw_set (ad tC : Nat → Nat) (w : List AE) (k : Nat) (e : AE) : (gw ad tC w).set k (ad k, ge ad tC e) = gw ad tC (w.set k e) := by
  apply List.ext_getElem?
  intro j
  simp only [gw, List.getElem?_set, List.getElem?_mapIdx, List.length_mapIdx]
  by_cases h : k = j
  · subst h
    simp only [if_true]
    by_cases h2 : k < w.length
    · simp [h2]
    · simp [h2]
  · simp [h]
/-- the addresses are apart, and of a kind -/
def DA (A : Nat → Prop) (ad : Nat → Nat) (n : Nat) : Prop := (∀ i j, i < n → j < n → ad i = ad j → i = j) ∧ ∀ k, k < n → A (ad k)
theorem gw_D {A : Nat → Prop} {ad tC : Nat → Nat} {w : List AE} : va_D A (gw ad tC w) ↔ DA A ad w.length := by
  constructor
  · intro h
    refine ⟨fun i j hi hj e => ?_, fun k hk => ?_⟩
    · exact h.1 i j _ _ (gw_at (List.getElem?_eq_getElem hi)) (gw_at (List.getElem?_eq_getElem hj)) e
    · exact h.2 k _ (gw_at (List.getElem?_eq_getElem hk))
  · intro h
    refine ⟨fun i j p q hp hq e => ?_, fun k q hq => ?_⟩
    · obtain ⟨e1, h1, rfl⟩ := gw_inv hp
      obtain ⟨e2, h2, rfl⟩ := gw_inv hq
      exact h.1 i j (List.getElem?_eq_some_iff.mp h1).1 (List.getElem?_eq_some_iff.mp h2).1 e
    · obtain ⟨e1, h1, rfl⟩ := gw_inv hq
      exact h.2 k (List.getElem?_eq_some_iff.mp h1).1
theorem gw_P {D : va_G} {ad tC : Nat → Nat} {w : List AE} {H : Heap} : va_P D vwCl (gw ad tC w) H ↔ ∀ k e, w[k]? = some e → va_at D vwCl (ad k, ge ad tC e) H := by
  constructor
  · intro h k e he
    exact h k _ (gw_at he)
  · intro h k q hq
    obtain ⟨e, h1, rfl⟩ := gw_inv hq
    exact h k e h1
/-! locals -/
def gl (ad : Nat → Nat) : Nat → List (Option Value) → List (Nat × Value)
  | _, [] => []
  | i, some v :: t => (i, gv ad v) :: gl ad (i + 1) t
  | i, none :: t => gl ad (i + 1) t
theorem gl_mem {ad : Nat → Nat} : ∀ {L : List (Option Value)} {i : Nat} {q : Nat × Value}, q ∈ gl ad i L ↔ ∃ k v, L[k]? = some (some v) ∧ q = (i + k, gv ad v)
  | [], i, q => by simp [gl]
  | some a :: t, i, q => by
    rw [gl, List.mem_cons, gl_mem (L := t)]
    constructor
    · rintro (rfl | ⟨k, v, h1, rfl⟩)
      · exact ⟨0, a, rfl, rfl⟩
      · exact ⟨k + 1, v, by simpa using h1, by rw [Nat.add_right_comm]; rfl⟩
    · rintro ⟨k, v, h1, rfl⟩
      cases k with
      | zero => left; simp at h1; rw [h1]; rfl
      | succ k => right; exact ⟨k, v, by simpa using h1, by rw [Nat.add_right_comm]; rfl⟩
  | none :: t, i, q => by
    rw [gl, gl_mem (L := t)]
    constructor
    · rintro ⟨k, v, h1, rfl⟩
      exact ⟨k + 1, v, by simpa using h1, by rw [Nat.add_right_comm]; rfl⟩
    · rintro ⟨k, v, h1, rfl⟩
      cases k with
      | zero => simp at h1
      | succ k => exact ⟨k, v, by simpa using h1, by rw [Nat.add_right_comm]; rfl⟩
theorem lv_mono {ls : Array Slot} {nL : Nat} {l l' : List (Nat × Value)} (h : lv_has ls nL l) (hs : ∀ q ∈ l', q ∈ l) : lv_has ls nL l' := ⟨h.1, h.2.1, fun q hq => h.2.2 q (hs q hq)⟩
def lh (ls : Array Slot) (nL : Nat) (ad : Nat → Nat) (L : List (Option Value)) : Prop := lv_has ls nL (gl ad 0 L)
theorem lh_at {ls : Array Slot} {nL : Nat} {ad : Nat → Nat} {L : List (Option Value)} (h : lh ls nL ad L) {i : Nat} {v : Value} (hi : L[i]? = some (some v)) : ls[i]? = some (.val (gv ad v)) := by
  have := h.2.2 (i, gv ad v) (gl_mem.mpr ⟨i, v, hi, by rw [Nat.zero_add]⟩)
  exact this
def c2 : Option Value → Option Value
  | some (.long _) => none
  | some (.double _) => none
  | a => a
theorem c2_some {a : Option Value} {v : Value} (h : c2 a = some v) : a = some v ∧ v.category = 1 := by
  match a with
  | none => simp [c2] at h
  | some (.long x) => simp [c2] at h
  | some (.double x) => simp [c2] at h
  | some (.int x) => simp [c2] at h; subst h; exact ⟨rfl, rfl⟩
  | some (.ref x) => simp [c2] at h; subst h; exact ⟨rfl, rfl⟩
  | some .null => simp [c2] at h; subst h; exact ⟨rfl, rfl⟩
  | some (.float x) => simp [c2] at h; subst h; exact ⟨rfl, rfl⟩
  | some (.retAddr x) => simp [c2] at h; subst h; exact ⟨rfl, rfl⟩
theorem nbf {a b : Nat} (h : a ≠ b) : Nat.beq a b = false := by
  cases hh : Nat.beq a b with
  | false => rfl
  | true => exact absurd (Nat.eq_of_beq_eq_true hh) h
/-- a value of one word comes to place i -/
def s1 (i : Nat) (v : Value) : Nat → List (Option Value) → List (Option Value)
  | _, [] => []
  | j, a :: t => (bif Nat.beq j i then some v else bif Nat.beq (j + 1) i then c2 a else a) :: s1 i v (j + 1) t
/-- a value of two words -/
def s2 (i : Nat) (v : Value) : Nat → List (Option Value) → List (Option Value)
  | _, [] => []
  | j, a :: t => (bif Nat.beq j i then some v else bif Nat.beq j (i + 1) then none else bif Nat.beq (j + 1) i then c2 a else a) :: s2 i v (j + 1) t
theorem s1_get {i : Nat} {v : Value} : ∀ {L : List (Option Value)} {j k : Nat} {u : Value}, (s1 i v j L)[k]? = some (some u) → (j + k = i ∧ u = v) ∨ (j + k ≠ i ∧ L[k]? = some (some u) ∧ ¬ (j + k + 1 = i ∧ u.category = 2))
  | [], j, k, u, h => by simp [s1] at h
  | a :: t, j, 0, u, h => by
    simp only [s1, List.getElem?_cons_zero, Option.some.injEq] at h
    by_cases h1 : j = i
    · subst h1; simp at h; exact Or.inl ⟨rfl, h.symm⟩
    · have hb : Nat.beq j i = false := nbf h1
      rw [hb] at h
      by_cases h2 : j + 1 = i
      · subst h2
        simp at h
        obtain ⟨rfl, h4⟩ := c2_some h
        exact Or.inr ⟨by omega, rfl, fun q => by omega⟩
      · have hb2 : Nat.beq (j + 1) i = false := nbf h2
        rw [hb2] at h
        simp at h
        exact Or.inr ⟨by omega, by simp [h], fun q => by omega⟩
  | a :: t, j, k + 1, u, h => by
    simp only [s1, List.getElem?_cons_succ] at h
    have h9 := s1_get h
    rw [show j + (k + 1) = j + 1 + k by omega]
    simpa using h9
theorem s2_get {i : Nat} {v : Value} : ∀ {L : List (Option Value)} {j k : Nat} {u : Value}, (s2 i v j L)[k]? = some (some u) → (j + k = i ∧ u = v) ∨ (j + k ≠ i ∧ j + k ≠ i + 1 ∧ L[k]? = some (some u) ∧ ¬ (j + k + 1 = i ∧ u.category = 2))
  | [], j, k, u, h => by simp [s2] at h
  | a :: t, j, 0, u, h => by
    simp only [s2, List.getElem?_cons_zero, Option.some.injEq] at h
    by_cases h1 : j = i
    · subst h1; simp at h; exact Or.inl ⟨rfl, h.symm⟩
    · have hb : Nat.beq j i = false := nbf h1
      rw [hb] at h
      by_cases h3 : j = i + 1
      · subst h3; simp at h
      · have hb3 : Nat.beq j (i + 1) = false := nbf h3
        rw [hb3] at h
        by_cases h2 : j + 1 = i
        · subst h2
          simp at h
          obtain ⟨rfl, h4⟩ := c2_some h
          exact Or.inr ⟨by omega, by omega, rfl, fun q => by omega⟩
        · have hb2 : Nat.beq (j + 1) i = false := nbf h2
          rw [hb2] at h
          simp at h
          exact Or.inr ⟨by omega, by omega, by simp [h], fun q => by omega⟩
  | a :: t, j, k + 1, u, h => by
    simp only [s2, List.getElem?_cons_succ] at h
    have h9 := s2_get h
    rw [show j + (k + 1) = j + 1 + k by omega]
    simpa using h9
theorem lh_s1 {ls : Array Slot} {nL : Nat} {ad : Nat → Nat} {L : List (Option Value)} {i : Nat} {v : Value} (h : lv_has ls nL ((i, gv ad v) :: (gl ad 0 L).filter (fun q => !(q.1 == i) && !(q.1 + 1 == i && q.2.category == 2)))) : lh ls nL ad (s1 i v 0 L) := by
  refine lv_mono h fun q hq => ?_
  obtain ⟨k, u, h1, rfl⟩ := gl_mem.mp hq
  rcases s1_get h1 with ⟨h2, rfl⟩ | ⟨h2, h3, h4⟩
  · rw [h2]; exact List.mem_cons_self
  · refine List.mem_cons_of_mem _ (List.mem_filter.mpr ⟨gl_mem.mpr ⟨k, u, h3, rfl⟩, ?_⟩)
    simp only [gv_cat]
    rw [Nat.zero_add] at h2 h4 ⊢
    by_cases h5 : k + 1 = i
    · have h6 : ¬ u.category = 2 := fun q => h4 ⟨h5, q⟩
      simp [h2, h6]
    · simp [h2, h5]
theorem lh_s2 {ls : Array Slot} {nL : Nat} {ad : Nat → Nat} {L : List (Option Value)} {i : Nat} {v : Value} (h : lv_has ls nL ((i, gv ad v) :: (gl ad 0 L).filter (fun q => !(q.1 == i) && (!(q.1 == i + 1) && !(q.1 + 1 == i && q.2.category == 2))))) : lh ls nL ad (s2 i v 0 L) := by
  refine lv_mono h fun q hq => ?_
  obtain ⟨k, u, h1, rfl⟩ := gl_mem.mp hq
  rcases s2_get h1 with ⟨h2, rfl⟩ | ⟨h2, h7, h3, h4⟩
  · rw [h2]; exact List.mem_cons_self
  · refine List.mem_cons_of_mem _ (List.mem_filter.mpr ⟨gl_mem.mpr ⟨k, u, h3, rfl⟩, ?_⟩)
    simp only [gv_cat]
    rw [Nat.zero_add] at h2 h4 h7 ⊢
    by_cases h5 : k + 1 = i
    · have h6 : ¬ u.category = 2 := fun q => h4 ⟨h5, q⟩
      simp [h2, h6, h7]
    · simp [h2, h5, h7]
/-! how a method begins -/
def eL : List Value → List (Option Value)
  | [] => []
  | .long x :: t => some (.long x) :: none :: eL t
  | .double x :: t => some (.double x) :: none :: eL t
  | v :: t => some v :: eL t
def pL : Nat → List (Option Value) → List (Option Value)
  | 0, _ => []
  | n + 1, [] => none :: pL n []
  | n + 1, a :: t => a :: pL n t
theorem pL_nil {n k : Nat} {v : Value} : (pL n [])[k]? = some (some v) → False := by
  induction n generalizing k with
  | zero => simp [pL]
  | succ n ih => cases k with
    | zero => simp [pL]
    | succ k => simp only [pL, List.getElem?_cons_succ]; exact ih
theorem pL_get : ∀ {n : Nat} {L : List (Option Value)} {k : Nat} {v : Value}, (pL n L)[k]? = some (some v) → L[k]? = some (some v)
  | 0, L, k, v, h => by simp [pL] at h
  | n + 1, [], k, v, h => (pL_nil (n := n + 1) h).elim
  | n + 1, a :: t, 0, v, h => by simpa [pL] using h
  | n + 1, a :: t, k + 1, v, h => by
    simp only [pL, List.getElem?_cons_succ] at h ⊢
    exact pL_get h
theorem eL_1 {v : Value} {t : List Value} (h : v.category = 1) : eL (v :: t) = some v :: eL t := by cases v <;> first | rfl | (simp [Value.category] at h)
theorem eL_2 {v : Value} {t : List Value} (h : v.category = 2) : eL (v :: t) = some v :: none :: eL t := by cases v <;> first | rfl | (simp [Value.category] at h)
theorem eL_args {ad : Nat → Nat} : ∀ {av : List Value} {k i : Nat} {v : Value}, (eL av)[k]? = some (some v) → (i + k, gv ad v) ∈ lv_args i (av.map (gv ad))
  | [], k, i, v, h => by simp [eL] at h
  | a :: t, k, i, v, h => by
    rcases lv_cat a with hc | hc
    · rw [eL_1 hc] at h
      simp only [List.map_cons, lv_args, gv_cat, hc]
      cases k with
      | zero => simp at h; subst h; exact List.mem_cons_self
      | succ k =>
        have h2 := eL_args (ad := ad) (i := i + 1) (by simpa using h)
        rw [Nat.add_right_comm] at h2
        exact List.mem_cons_of_mem _ h2
    · rw [eL_2 hc] at h
      simp only [List.map_cons, lv_args, gv_cat, hc]
      match k, h with
      | 0, h => simp at h; subst h; exact List.mem_cons_self
      | 1, h => simp at h
      | k + 2, h =>
        have h2 := eL_args (ad := ad) (i := i + 2) (by simpa using h)
        rw [show i + 2 + k = i + (k + 2) by omega] at h2
        exact List.mem_cons_of_mem _ h2
theorem eL_len (ad : Nat → Nat) : ∀ av : List Value, (lg_sl (av.map (gv ad))).length = (eL av).length
  | [] => rfl
  | a :: t => by
    have h := eL_len ad t
    rcases lv_cat a with hc | hc
    · rw [eL_1 hc]
      simp only [lg_sl, List.map_cons, List.flatMap_cons, gv_cat, hc] at h ⊢
      simpa using h
    · rw [eL_2 hc]
      simp only [lg_sl, List.map_cons, List.flatMap_cons, gv_cat, hc] at h ⊢
      simp at h ⊢
      omega
