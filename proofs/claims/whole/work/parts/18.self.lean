/-! a call on the same object: the callee's world is the caller's -/
theorem rho_id (n j : Nat) : rho (List.range n) n j = j := by
  unfold rho
  by_cases h : j < n
  · rw [List.getElem?_eq_getElem (by simpa using h)]
    simp
  · rw [List.getElem?_eq_none (by simpa using h)]
    simp
    omega
theorem gv_id (v : Value) : gv (fun j => j) v = v := by cases v <;> rfl
theorem rn_id (e : AE) : rn (fun j => j) e = e := by
  match e with
  | .inl (n, .inl f) => rfl
  | .inl (n, .inr (.inl f)) => rfl
  | .inl (n, .inr (.inr l)) =>
    simp only [rn]
    rw [show (fun j : Nat => j) = id from rfl, Option.map_id, List.map_id]
  | .inr (c, fs) =>
    simp only [rn]
    congr 2
    rw [show gv (fun j => j) = id from funext gv_id]
    exact List.map_id _
theorem mgp_all {w1 w : List AE} (h : w1.length = w.length) : mgp (fun j => j) (List.range w.length) w1 w = w1 := by
  have hn : va_nd (List.range w.length) = true := by
    have : ∀ l : List Nat, l.Nodup → va_nd l = true := by
      intro l
      induction l with
      | nil => intro _; rfl
      | cons a l ih =>
        intro hl
        rw [List.nodup_cons] at hl
        simp only [va_nd, Bool.and_eq_true, decide_eq_true_eq]
        exact ⟨hl.1, ih hl.2⟩
    exact this _ List.nodup_range
  apply List.ext_getElem?
  intro k
  by_cases hk : k < w.length
  · have h1 := mgp_in (fun j => j) (List.range w.length) w1 w k k (w1[k]'(by omega)) hn (by simp [hk]) (List.getElem?_eq_getElem (by omega)) hk
    rw [h1, rn_id, List.getElem?_eq_getElem (by omega)]
  · rw [List.getElem?_eq_none (by rw [mgp_len]; omega), List.getElem?_eq_none (by omega)]
theorem nd_range (n : Nat) : va_nd (List.range n) = true := by
  have : ∀ l : List Nat, l.Nodup → va_nd l = true := by
    intro l
    induction l with
    | nil => intro _; rfl
    | cons a l ih =>
      intro hl
      rw [List.nodup_cons] at hl
      simp only [va_nd, Bool.and_eq_true, decide_eq_true_eq]
      exact ⟨hl.1, ih hl.2⟩
  exact this _ List.nodup_range
section Self
variable {X : (Nat → Nat) → State → (Nat → Prop) → Prop} {M z : MD} {Q Qz : Option Value → List AE → Prop} {n0 cn sn pc : Nat} {L : List (Option Value)} {st : List Value} {w : List AE}
theorem go_callVs {i n j ci : Nat} {fs av rest : List Value} (hd : decode M.2.1 pc = .ok (.invokevirtual i, 3)) (hlk : Cond.methodLink M.1.cls i z.1 ∈ tb) (hz : CV z n) (hE : Ev z (.ref j :: av) w Qz) (hst : st = av.reverse ++ .ref j :: rest) (hn : av.length = n) (hrc : w[j]? = some (zO ci fs)) (hcl : ∃ T N, vwCl[ci]? = some (z.1.cls, T, N)) (hF : fitB M z cn sn = true) (hrest : resB rest = true) (hQ : ∀ v w1, Qz v w1 → w1.length = w.length)
    (k : ∀ v w1, Qz v w1 → Go X M Q n0 (cn + z.2.2.2.2.cells) (sn + z.2.2.2.2.slots) (pc + 3) L (v.toList ++ rest) w1) : Go X M Q n0 cn sn pc L st w := by
  have e : rho (List.range w.length) w.length = fun j => j := funext fun j => rho_id _ j
  have eg : gv (fun j => j) = id := funext gv_id
  refine go_callV (wc := w) (List.range w.length) hd hlk hz hE ?_ ?_ (nd_range _) hn hrc hcl (fit_of hF) (res_of hrest) (fun v w1 h => by rw [List.length_range]; exact hQ v w1 h) (fun v w1 h => ?_)
  · rw [e, eg, List.map_id]
    exact hst
  · rw [e]
    apply List.ext_getElem?
    intro k
    simp only [List.getElem?_map, rn_id]
    by_cases hk : k < w.length
    · simp [hk]
    · simp [hk]
  · rw [e, mgp_all (hQ v w1 h), eg, Option.map_id]
    exact k v w1 h
theorem go_callVsi {i n j ci : Nat} {fs av rest : List Value} {r : Int32} (hd : decode M.2.1 pc = .ok (.invokevirtual i, 3)) (hlk : Cond.methodLink M.1.cls i z.1 ∈ tb) (hz : CV z n) (hE : Ev z (.ref j :: av) w (Ri w r)) (hst : st = av.reverse ++ .ref j :: rest) (hn : av.length = n) (hrc : w[j]? = some (zO ci fs)) (hcl : ∃ T N, vwCl[ci]? = some (z.1.cls, T, N)) (hF : fitB M z cn sn = true) (hrest : resB rest = true)
    (k : Go X M Q n0 (cn + z.2.2.2.2.cells) (sn + z.2.2.2.2.slots) (pc + 3) L (.int r :: rest) w) : Go X M Q n0 cn sn pc L st w :=
  go_callVs hd hlk hz hE hst hn hrc hcl hF hrest (by rintro v w1 ⟨-, rfl⟩; rfl) (by rintro v w1 ⟨rfl, rfl⟩; exact k)
theorem go_callVsj {i n j ci : Nat} {fs av rest : List Value} {r : Int64} (hd : decode M.2.1 pc = .ok (.invokevirtual i, 3)) (hlk : Cond.methodLink M.1.cls i z.1 ∈ tb) (hz : CV z n) (hE : Ev z (.ref j :: av) w (Rj w r)) (hst : st = av.reverse ++ .ref j :: rest) (hn : av.length = n) (hrc : w[j]? = some (zO ci fs)) (hcl : ∃ T N, vwCl[ci]? = some (z.1.cls, T, N)) (hF : fitB M z cn sn = true) (hrest : resB rest = true)
    (k : Go X M Q n0 (cn + z.2.2.2.2.cells) (sn + z.2.2.2.2.slots) (pc + 3) L (.long r :: rest) w) : Go X M Q n0 cn sn pc L st w :=
  go_callVs hd hlk hz hE hst hn hrc hcl hF hrest (by rintro v w1 ⟨-, rfl⟩; rfl) (by rintro v w1 ⟨rfl, rfl⟩; exact k)
theorem go_callVsr {i n j ci a : Nat} {fs av rest : List Value} (hd : decode M.2.1 pc = .ok (.invokevirtual i, 3)) (hlk : Cond.methodLink M.1.cls i z.1 ∈ tb) (hz : CV z n) (hE : Ev z (.ref j :: av) w (Rd w (fun v => v = some (.ref a)))) (hst : st = av.reverse ++ .ref j :: rest) (hn : av.length = n) (hrc : w[j]? = some (zO ci fs)) (hcl : ∃ T N, vwCl[ci]? = some (z.1.cls, T, N)) (hF : fitB M z cn sn = true) (hrest : resB rest = true)
    (k : Go X M Q n0 (cn + z.2.2.2.2.cells) (sn + z.2.2.2.2.slots) (pc + 3) L (.ref a :: rest) w) : Go X M Q n0 cn sn pc L st w :=
  go_callVs hd hlk hz hE hst hn hrc hcl hF hrest (by rintro v w1 ⟨-, rfl⟩; rfl) (by rintro v w1 ⟨rfl, rfl⟩; exact k)
theorem go_callVsw {i n j ci : Nat} {fs av rest : List Value} {v0 : Option Value} {w' : List AE} (hd : decode M.2.1 pc = .ok (.invokevirtual i, 3)) (hlk : Cond.methodLink M.1.cls i z.1 ∈ tb) (hz : CV z n) (hE : Ev z (.ref j :: av) w (Rw v0 w')) (hst : st = av.reverse ++ .ref j :: rest) (hn : av.length = n) (hrc : w[j]? = some (zO ci fs)) (hcl : ∃ T N, vwCl[ci]? = some (z.1.cls, T, N)) (hF : fitB M z cn sn = true) (hrest : resB rest = true) (hlen : w'.length = w.length)
    (k : Go X M Q n0 (cn + z.2.2.2.2.cells) (sn + z.2.2.2.2.slots) (pc + 3) L (v0.toList ++ rest) w') : Go X M Q n0 cn sn pc L st w :=
  go_callVs hd hlk hz hE hst hn hrc hcl hF hrest (by rintro v w1 ⟨-, rfl⟩; exact hlen) (by rintro v w1 ⟨rfl, rfl⟩; exact k)
end Self
