def fitB (M z : MD) (cn sn : Nat) : Bool := Nat.ble (z.2.2.2.2.frames + 1) M.2.2.2.2.frames && Nat.ble (8 + (z.2.2.1 + 11) + z.2.2.2.2.locals) M.2.2.2.2.locals && Nat.ble (cn + z.2.2.2.2.cells) M.2.2.2.2.cells && Nat.ble (sn + z.2.2.2.2.slots) M.2.2.2.2.slots
theorem fit_of {M z : MD} {cn sn : Nat} (h : fitB M z cn sn = true) : Fit M z cn sn := by
  simp only [fitB, Bool.and_eq_true] at h
  exact ⟨⟨Nat.le_of_ble_eq_true h.1.1.1, Nat.le_of_ble_eq_true h.1.1.2⟩, Nat.le_of_ble_eq_true h.1.2, Nat.le_of_ble_eq_true h.2⟩
def resB (rest : List Value) : Bool := Nat.ble (rest.map fun v => v.category).sum 8
theorem res_of {rest : List Value} (h : resB rest = true) : (rest.map fun v => v.category).sum ≤ 8 := Nat.le_of_ble_eq_true h
/-- a world that comes back as it was -/
theorem mgp_same {w wc : List AE} (r : Nat → Nat) : ∀ (ps : List Nat) (wc w : List AE), ps.map (fun i => w[i]?) = wc.map (fun e => some (rn r e)) → mgp r ps wc w = w
  | [], wc, w, h => rfl
  | i :: ps, [], w, h => rfl
  | i :: ps, e :: wc, w, h => by
    simp only [List.map_cons, List.cons.injEq] at h
    have h1 : w.set i (rn r e) = w := by
      apply List.ext_getElem?
      intro j
      rw [List.getElem?_set]
      by_cases hj : i = j
      · subst hj
        have := (List.getElem?_eq_some_iff.mp h.1).1
        simp [this]
        exact (List.getElem?_eq_some_iff.mp h.1).2.symm
      · simp [hj]
    rw [mgp, h1]
    exact mgp_same (w := w) (wc := wc) r ps wc w h.2
section C8
variable {X : (Nat → Nat) → State → (Nat → Prop) → Prop} {M z : MD} {Q : Option Value → List AE → Prop} {n0 cn sn pc : Nat} {L : List (Option Value)} {st : List Value} {w wc : List AE}
/-- what a method answers that leaves the world as it was -/
abbrev Rd (wc : List AE) (P : Option Value → Prop) : Option Value → List AE → Prop := fun v w1 => P v ∧ w1 = wc
abbrev Ri (wc : List AE) (r : Int32) : Option Value → List AE → Prop := Rd wc (fun v => v = some (.int r))
abbrev Rj (wc : List AE) (r : Int64) : Option Value → List AE → Prop := Rd wc (fun v => v = some (.long r))
/-- what a method answers that comes to one answer and one world -/
abbrev Rw (v0 : Option Value) (w0 : List AE) : Option Value → List AE → Prop := fun v w1 => v = v0 ∧ w1 = w0
theorem rdz {P : Option Value → Prop} {ps : List Nat} {r : Nat → Nat} (hw : ps.map (fun i => w[i]?) = wc.map (fun e => some (rn r e))) : ∀ v w1, Rd wc P v w1 → w1.length = ps.length := by
  rintro v w1 ⟨-, rfl⟩
  exact hw_len hw
theorem go_callSi {i n : Nat} {av rest : List Value} {r : Int32} (ps : List Nat) (hd : decode M.2.1 pc = .ok (.invokestatic i, 3)) (hlk : Cond.methodLink M.1.cls i z.1 ∈ tb) (hz : CS z n) (hE : Ev z av wc (Ri wc r)) (hst : st = (av.map (gv (rho ps w.length))).reverse ++ rest) (hw : ps.map (fun i => w[i]?) = wc.map (fun e => some (rn (rho ps w.length) e))) (hnd : va_nd ps = true) (hn : av.length = n) (hF : fitB M z cn sn = true) (hrest : resB rest = true)
    (k : Go X M Q n0 (cn + z.2.2.2.2.cells) (sn + z.2.2.2.2.slots) (pc + 3) L (.int r :: rest) w) : Go X M Q n0 cn sn pc L st w :=
  go_callS ps hd hlk hz hE hst hw hnd hn (fit_of hF) (res_of hrest) (rdz hw) (by
    rintro v w1 ⟨rfl, rfl⟩
    rw [mgp_same (w := w) (wc := w1) _ _ _ _ hw]
    exact k)
theorem go_callSj {i n : Nat} {av rest : List Value} {r : Int64} (ps : List Nat) (hd : decode M.2.1 pc = .ok (.invokestatic i, 3)) (hlk : Cond.methodLink M.1.cls i z.1 ∈ tb) (hz : CS z n) (hE : Ev z av wc (Rj wc r)) (hst : st = (av.map (gv (rho ps w.length))).reverse ++ rest) (hw : ps.map (fun i => w[i]?) = wc.map (fun e => some (rn (rho ps w.length) e))) (hnd : va_nd ps = true) (hn : av.length = n) (hF : fitB M z cn sn = true) (hrest : resB rest = true)
    (k : Go X M Q n0 (cn + z.2.2.2.2.cells) (sn + z.2.2.2.2.slots) (pc + 3) L (.long r :: rest) w) : Go X M Q n0 cn sn pc L st w :=
  go_callS ps hd hlk hz hE hst hw hnd hn (fit_of hF) (res_of hrest) (rdz hw) (by
    rintro v w1 ⟨rfl, rfl⟩
    rw [mgp_same (w := w) (wc := w1) _ _ _ _ hw]
    exact k)
theorem go_callVi {i n j ci : Nat} {fs av rest : List Value} {r : Int32} (ps : List Nat) (hd : decode M.2.1 pc = .ok (.invokevirtual i, 3)) (hlk : Cond.methodLink M.1.cls i z.1 ∈ tb) (hz : CV z n) (hE : Ev z (.ref j :: av) wc (Ri wc r)) (hst : st = (av.map (gv (rho ps w.length))).reverse ++ .ref (rho ps w.length j) :: rest) (hw : ps.map (fun i => w[i]?) = wc.map (fun e => some (rn (rho ps w.length) e))) (hnd : va_nd ps = true) (hn : av.length = n) (hrc : wc[j]? = some (zO ci fs)) (hcl : ∃ T N, vwCl[ci]? = some (z.1.cls, T, N)) (hF : fitB M z cn sn = true) (hrest : resB rest = true)
    (k : Go X M Q n0 (cn + z.2.2.2.2.cells) (sn + z.2.2.2.2.slots) (pc + 3) L (.int r :: rest) w) : Go X M Q n0 cn sn pc L st w :=
  go_callV ps hd hlk hz hE hst hw hnd hn hrc hcl (fit_of hF) (res_of hrest) (rdz hw) (by
    rintro v w1 ⟨rfl, rfl⟩
    rw [mgp_same (w := w) (wc := w1) _ _ _ _ hw]
    exact k)
theorem go_callVj {i n j ci : Nat} {fs av rest : List Value} {r : Int64} (ps : List Nat) (hd : decode M.2.1 pc = .ok (.invokevirtual i, 3)) (hlk : Cond.methodLink M.1.cls i z.1 ∈ tb) (hz : CV z n) (hE : Ev z (.ref j :: av) wc (Rj wc r)) (hst : st = (av.map (gv (rho ps w.length))).reverse ++ .ref (rho ps w.length j) :: rest) (hw : ps.map (fun i => w[i]?) = wc.map (fun e => some (rn (rho ps w.length) e))) (hnd : va_nd ps = true) (hn : av.length = n) (hrc : wc[j]? = some (zO ci fs)) (hcl : ∃ T N, vwCl[ci]? = some (z.1.cls, T, N)) (hF : fitB M z cn sn = true) (hrest : resB rest = true)
    (k : Go X M Q n0 (cn + z.2.2.2.2.cells) (sn + z.2.2.2.2.slots) (pc + 3) L (.long r :: rest) w) : Go X M Q n0 cn sn pc L st w :=
  go_callV ps hd hlk hz hE hst hw hnd hn hrc hcl (fit_of hF) (res_of hrest) (rdz hw) (by
    rintro v w1 ⟨rfl, rfl⟩
    rw [mgp_same (w := w) (wc := w1) _ _ _ _ hw]
    exact k)
theorem go_callVw {i n j ci : Nat} {fs av rest : List Value} {v0 : Option Value} {w1 : List AE} (ps : List Nat) (w' : List AE) (hd : decode M.2.1 pc = .ok (.invokevirtual i, 3)) (hlk : Cond.methodLink M.1.cls i z.1 ∈ tb) (hz : CV z n) (hE : Ev z (.ref j :: av) wc (Rw v0 w1)) (hst : st = (av.map (gv (rho ps w.length))).reverse ++ .ref (rho ps w.length j) :: rest) (hw : ps.map (fun i => w[i]?) = wc.map (fun e => some (rn (rho ps w.length) e))) (hnd : va_nd ps = true) (hn : av.length = n) (hrc : wc[j]? = some (zO ci fs)) (hcl : ∃ T N, vwCl[ci]? = some (z.1.cls, T, N)) (hF : fitB M z cn sn = true) (hrest : resB rest = true) (hlen : w1.length = ps.length) (hw' : mgp (rho ps w.length) ps w1 w = w')
    (k : Go X M Q n0 (cn + z.2.2.2.2.cells) (sn + z.2.2.2.2.slots) (pc + 3) L ((v0.map (gv (rho ps w.length))).toList ++ rest) w') : Go X M Q n0 cn sn pc L st w :=
  go_callV ps hd hlk hz hE hst hw hnd hn hrc hcl (fit_of hF) (res_of hrest) (by rintro v w2 ⟨-, rfl⟩; exact hlen) (by
    rintro v w2 ⟨rfl, rfl⟩
    rw [hw']
    exact k)
end C8
theorem Ev.mono {M : MD} {av : List Value} {w : List AE} {Q Q' : Option Value → List AE → Prop} (h : Ev M av w Q) (hq : ∀ v w1, Q v w1 → Q' v w1) : Ev M av w Q' := by
  intro l D tC ad sz
  have h1 := h l D tC ad sz
  intro p e ha hc hk s m args below hf happ hP hk2
  obtain ⟨t, o, b1, b2, b3, ⟨⟨v, w1, ad1, c1, c2, c3⟩, c4⟩, b5⟩ := h1 p e ha hc hk s m args below hf happ hP hk2
  exact ⟨t, o, b1, b2, b3, ⟨⟨v, w1, ad1, c1, hq _ _ c2, c3⟩, c4⟩, b5⟩
