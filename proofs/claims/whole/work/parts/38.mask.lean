theorem brb_bit (ok : Nat → Bool) (v : Nat) : ∀ n, (brbN ok n).testBit v = (decide (v < n) && ok v)
  | 0 => by simp [brbN]
  | n + 1 => by
    rw [brbN]
    by_cases h : ok n = true
    · rw [if_pos h, Nat.testBit_or, Nat.testBit_two_pow, brb_bit ok v n]
      by_cases e : n = v
      · subst e; simp [h]
      · have : (v < n + 1) = (v < n) := propext ⟨fun _ => by omega, fun _ => by omega⟩
        simp [e, this]
    · rw [if_neg h, brb_bit ok v n]
      by_cases e : n = v
      · subst e; simp [h]
      · have : (v < n + 1) = (v < n) := propext ⟨fun _ => by omega, fun _ => by omega⟩
        simp [this]
theorem tl_in (ok : Nat → Bool) (F : Nat → Nat → Int32) (f e : Nat) : ∀ b, b ≤ 10 → ∃ t, t ≤ b ∧ tlC ok F f e b = nI t
  | 0, _ => ⟨0, Nat.le_refl _, rfl⟩
  | b + 1, h => by
    obtain ⟨t, ht, e1⟩ := tl_in ok F f e b (by omega)
    rw [tlC]
    split
    · exact ⟨t + 1, by omega, by rw [e1, nI_1]⟩
    · exact ⟨t, by omega, e1⟩
theorem mx_in {h : Nat → Int32} {B : Nat} (hh : ∀ e, ∃ t, t ≤ B ∧ h e = nI t) : ∀ n, ∃ t, t ≤ B ∧ mxE h n = nI t
  | 0 => ⟨0, Nat.zero_le _, rfl⟩
  | n + 1 => by
    rw [mxE_lt]
    split
    · exact hh n
    · exact mx_in hh n
theorem ask_in {mA : Nat → Int32} (hm : ∀ f, ¬ 11 ≤ mA f) : ∀ f, (f = 0 ∧ askI mA f = (-1, 11)) ∨ ∃ b, b < f ∧ (askI mA f).1 = nI b
  | 0 => Or.inl ⟨rfl, rfl⟩
  | f + 1 => by
    right
    rcases ask_in hm f with ⟨h1, h2⟩ | ⟨b, h1, h2⟩
    · rw [askI_gt (by rw [h2]; exact hm f)]
      exact ⟨f, by omega, rfl⟩
    · by_cases q : (askI mA f).2 ≤ mA f
      · rw [askI_le q]; exact ⟨b, by omega, h2⟩
      · rw [askI_gt q]; exact ⟨f, by omega, rfl⟩
set_option maxRecDepth 100000 in
theorem ev_X12_askNow (U : TU) (lt : Int32) (B : TB2) (F A : TX) (se : AF) (R : TR) (O : TO) (V : TX) (al : AF) (dr : Int32) (hF : F.1 ≤ 8) (hA : AOK A) (s0 : Nat) (h9 : s0 ≤ 9) (h0 : se 0 = nI s0) (hV : VOK V) : Ev MX12_askNow [.ref 0] (mwd U lt B F A se R O V al dr) (fun v w => v = some (.int (askI (fun f => mxE (fun e => tlC (fun v => seenB F.1 F.2 (nmR A.2) (se 0) (se 1) (nI v) A.1 (SV V)) (fun b f => wF F.1 F.2 (nmR A.2) (se 0) (se 1) (nI b) A.1 f) f e 10) 6) F.1).1) ∧ ∃ (R2 : TR) (al2 : AF), w = (mwd U lt B F A se R2 O V al2 dr) ∧ RI F A se R2) := by
  refine ev_of bX12_askNow [some (.ref 0), none, none, none, none, none, none, none] (Nat.le_of_ble_eq_true rfl) rfl ?_
  refine go_aload_n dX12_askNow_0 rfl ?_
  refine go_callVs (z := MX12_bribesNow) dX12_askNow_1 lX12_250 sX12_bribesNow (ev_X12_bribesNow U lt B F A se R O V al dr hF hA s0 h9 h0 hV) rfl rfl rfl ⟨_, _, rfl⟩ rfl rfl (fun v w1 h => by obtain ⟨-, F2, rfl, -⟩ := h; rfl) (fun v_1 w_1 h_1 => ?_)
  obtain ⟨rfl, R2, rfl, hR⟩ := h_1
  refine go_istore_n dX12_askNow_4 (by decide) ?_
  refine go_aload_n dX12_askNow_5 rfl ?_
  refine go_getf fX12_34 dX12_askNow_6 rfl rfl ?_
  refine go_iconst (2) dX12_askNow_9 (by decide) ?_
  refine go_iald dX12_askNow_10 rfl (vp_in_nI (n := 2) (by decide) (by decide)) ?_
  rw [show se (2 : Int32).toNatClampNeg = se 2 from rfl]
  refine go_istore_n dX12_askNow_11 (by decide) ?_
  refine go_iconst (0) dX12_askNow_12 (by decide) ?_
  refine go_istore_n dX12_askNow_13 (by decide) ?_
  suffices zero : ∀ (d i : Nat) (al : AF), i + d = 48 → (∀ j, j < i → al j = 0) → Go X0 MX12_askNow (fun v w => v = some (.int (askI (fun f => mxE (fun e => tlC (fun v => seenB F.1 F.2 (nmR A.2) (se 0) (se 1) (nI v) A.1 (SV V)) (fun b f => wF F.1 F.2 (nmR A.2) (se 0) (se 1) (nI b) A.1 f) f e 10) 6) F.1).1) ∧ ∃ (R2 : TR) (al2 : AF), w = (mwd U lt B F A se R2 O V al2 dr) ∧ RI F A se R2) 21 0 0 14 [some (.ref 0), some (.int (nI (brbN (fun v => seenB F.1 F.2 (nmR A.2) (se 0) (se 1) (nI v) A.1 (SV V)) 10))), some (.int (se 2)), some (.int (nI i)), none, none, none, none] [] (mwd U lt B F A se R2 O V al dr) from zero 48 0 al (by omega) (fun j h => absurd h (by omega))
  intro d
  induction d with
  | zero =>
    intro i al hi hz
    refine go_iload_n dX12_askNow_14 rfl ?_
    refine go_bipush (48) dX12_askNow_15 (by decide) ?_
    refine go_icmp_ge 33 dX12_askNow_17 (by decide) (fun _ => ?_) (fun c_17 => absurd (nI_le (a := 48) (by omega) (by omega)) c_17)
    refine go_iconst (0) dX12_askNow_33 (by decide) ?_
    refine go_istore_n dX12_askNow_34 (by decide) ?_
    suffices tal : ∀ (d b : Nat) (y : Int32) (R : TR) (al : AF) (x4 : Option Value), b + d = 10 → (∀ f e, f < F.1 → e < 6 → al (6 * f + e) = tlC (fun v => seenB F.1 F.2 (nmR A.2) (se 0) (se 1) (nI v) A.1 (SV V)) (fun b f => wF F.1 F.2 (nmR A.2) (se 0) (se 1) (nI b) A.1 f) f e b) → Go X0 MX12_askNow (fun v w => v = some (.int (askI (fun f => mxE (fun e => tlC (fun v => seenB F.1 F.2 (nmR A.2) (se 0) (se 1) (nI v) A.1 (SV V)) (fun b f => wF F.1 F.2 (nmR A.2) (se 0) (se 1) (nI b) A.1 f) f e 10) 6) F.1).1) ∧ ∃ (R2 : TR) (al2 : AF), w = (mwd U lt B F A se R2 O V al2 dr) ∧ RI F A se R2) 21 0 0 35 [some (.ref 0), some (.int (nI (brbN (fun v => seenB F.1 F.2 (nmR A.2) (se 0) (se 1) (nI v) A.1 (SV V)) 10))), some (.int (se 2)), some (.int (nI b)), x4, none, none, none] [] (mwd U lt B F A (upd se 2 y) R O V al dr) from (by
      have := tal 10 0 (se 2) R2 al none (by omega) (fun f e hf he => hz _ (by omega))
      rw [upd_same] at this
      exact this)
    clear hz hR hi
    intro d
    induction d with
    | zero =>
      intro b y R al x4 hb hv
      obtain rfl : b = 10 := by omega
      refine go_iload_n dX12_askNow_35 rfl ?_
      refine go_bipush (10) dX12_askNow_36 (by decide) ?_
      refine go_icmp_ge 107 dX12_askNow_38 (by decide) (fun _ => ?_) (fun c_38 => absurd (by decide) c_38)
      refine go_aload_n dX12_askNow_107 rfl ?_
      refine go_getf fX12_34 dX12_askNow_108 rfl rfl ?_
      refine go_iconst (2) dX12_askNow_111 (by decide) ?_
      refine go_iload_n dX12_askNow_112 rfl ?_
      refine go_iast dX12_askNow_113 rfl (vp_in_nI (n := 2) (by decide) (by decide)) ?_
      rw [show upd (upd se 2 y) (2 : Int32).toNatClampNeg (se 2) = se from (upd_upd se 2 y (se 2)).trans (upd_same se 2)]
      refine go_aload_n dX12_askNow_114 rfl ?_
      refine go_callVs (z := MX12_goes) dX12_askNow_115 lX12_162 sX12_goes (ev_X12_goes U lt B F A se R O V al dr hF hA s0 h9 h0) rfl rfl rfl ⟨_, _, rfl⟩ rfl rfl (fun v w1 h => by obtain ⟨-, F2, rfl, -⟩ := h; rfl) (fun v_115 w_115 h_115 => ?_)
      obtain ⟨rfl, R2, rfl, hR⟩ := h_115
      refine go_iconst (-1) dX12_askNow_118 (by decide) ?_
      refine go_istore_n dX12_askNow_119 (by decide) ?_
      refine go_iconst (0) dX12_askNow_120 (by decide) ?_
      refine go_istore dX12_askNow_121 (by decide) ?_
      refine go_iconst (0) dX12_askNow_123 (by decide) ?_
      refine go_istore dX12_askNow_124 (by decide) ?_
      have hmA : ∀ f, ¬ (11 : Int32) ≤ (fun f => mxE (fun e => tlC (fun v => seenB F.1 F.2 (nmR A.2) (se 0) (se 1) (nI v) A.1 (SV V)) (fun b f => wF F.1 F.2 (nmR A.2) (se 0) (se 1) (nI b) A.1 f) f e 10) 6) f := fun f q => by
        obtain ⟨t, ht, e⟩ := mx_in (B := 10) (fun e => tl_in (fun v => seenB F.1 F.2 (nmR A.2) (se 0) (se 1) (nI v) A.1 (SV V)) (fun b f => wF F.1 F.2 (nmR A.2) (se 0) (se 1) (nI b) A.1 f) f e 10 (by decide)) 6
        rw [show (fun f => mxE (fun e => tlC (fun v => seenB F.1 F.2 (nmR A.2) (se 0) (se 1) (nI v) A.1 (SV V)) (fun b f => wF F.1 F.2 (nmR A.2) (se 0) (se 1) (nI b) A.1 f) f e 10) 6) f = nI t from e] at q
        exact absurd ((nI_leI (a := 11) (by decide) (by omega)).mp q) (by omega)
      suffices last : ∀ (d f : Nat) (least : Int32) (x6 x7 : Option Value), f + d = F.1 → (f = 0 ∨ least = (askI (fun f => mxE (fun e => tlC (fun v => seenB F.1 F.2 (nmR A.2) (se 0) (se 1) (nI v) A.1 (SV V)) (fun b f => wF F.1 F.2 (nmR A.2) (se 0) (se 1) (nI b) A.1 f) f e 10) 6) f).2) → Go X0 MX12_askNow (fun v w => v = some (.int (askI (fun f => mxE (fun e => tlC (fun v => seenB F.1 F.2 (nmR A.2) (se 0) (se 1) (nI v) A.1 (SV V)) (fun b f => wF F.1 F.2 (nmR A.2) (se 0) (se 1) (nI b) A.1 f) f e 10) 6) F.1).1) ∧ ∃ (R2 : TR) (al2 : AF), w = (mwd U lt B F A se R2 O V al2 dr) ∧ RI F A se R2) 21 0 0 126 [some (.ref 0), some (.int (nI (brbN (fun v => seenB F.1 F.2 (nmR A.2) (se 0) (se 1) (nI v) A.1 (SV V)) 10))), some (.int (se 2)), some (.int (askI (fun f => mxE (fun e => tlC (fun v => seenB F.1 F.2 (nmR A.2) (se 0) (se 1) (nI v) A.1 (SV V)) (fun b f => wF F.1 F.2 (nmR A.2) (se 0) (se 1) (nI b) A.1 f) f e 10) 6) f).1), some (.int least), some (.int (nI f)), x6, x7] [] (mwd U lt B F A se R2 O V al dr) from last F.1 0 0 _ _ (by omega) (Or.inl rfl)
      intro d
      induction d with
      | zero =>
        intro f least x6 x7 hi hl
        rw [show f = F.1 by omega]
        refine go_iload dX12_askNow_126 rfl ?_
        refine go_aload_n dX12_askNow_128 rfl ?_
        refine go_getf fX12_112 dX12_askNow_129 rfl rfl ?_
        refine go_icmp_ge 225 dX12_askNow_132 (by decide) (fun _ => ?_) (fun c_132 => absurd (Int32.le_refl _) c_132)
        refine go_iload_n dX12_askNow_225 rfl ?_
        refine go_ireturn dX12_askNow_226 rfl rfl (Nat.le_of_ble_eq_true rfl) (Nat.le_of_ble_eq_true rfl) ?_
        exact ⟨rfl, R2, al, rfl, hR⟩
      | succ d ih =>
        intro f least x6 x7 hi hl
        refine go_iload dX12_askNow_126 rfl ?_
        refine go_aload_n dX12_askNow_128 rfl ?_
        refine go_getf fX12_112 dX12_askNow_129 rfl rfl ?_
        refine go_icmp_ge 225 dX12_askNow_132 (by decide) (fun c_132 => absurd c_132 (nI_ge (by omega) (by omega))) (fun _ => ?_)
        refine go_iconst (0) dX12_askNow_135 (by decide) ?_
        refine go_istore dX12_askNow_136 (by decide) ?_
        refine go_iconst (0) dX12_askNow_138 (by decide) ?_
        refine go_istore dX12_askNow_139 (by decide) ?_
        suffices mx : ∀ (d e : Nat), e + d = 6 → Go X0 MX12_askNow (fun v w => v = some (.int (askI (fun f => mxE (fun e => tlC (fun v => seenB F.1 F.2 (nmR A.2) (se 0) (se 1) (nI v) A.1 (SV V)) (fun b f => wF F.1 F.2 (nmR A.2) (se 0) (se 1) (nI b) A.1 f) f e 10) 6) F.1).1) ∧ ∃ (R2 : TR) (al2 : AF), w = (mwd U lt B F A se R2 O V al2 dr) ∧ RI F A se R2) 21 0 0 141 [some (.ref 0), some (.int (nI (brbN (fun v => seenB F.1 F.2 (nmR A.2) (se 0) (se 1) (nI v) A.1 (SV V)) 10))), some (.int (se 2)), some (.int (askI (fun f => mxE (fun e => tlC (fun v => seenB F.1 F.2 (nmR A.2) (se 0) (se 1) (nI v) A.1 (SV V)) (fun b f => wF F.1 F.2 (nmR A.2) (se 0) (se 1) (nI b) A.1 f) f e 10) 6) f).1), some (.int least), some (.int (nI f)), some (.int (mxE (fun e => tlC (fun v => seenB F.1 F.2 (nmR A.2) (se 0) (se 1) (nI v) A.1 (SV V)) (fun b f => wF F.1 F.2 (nmR A.2) (se 0) (se 1) (nI b) A.1 f) f e 10) e)), some (.int (nI e))] [] (mwd U lt B F A se R2 O V al dr) from mx 6 0 (by omega)
        intro d2
        induction d2 with
        | zero =>
          intro e he
          obtain rfl : e = 6 := by omega
          rcases ask_in hmA f with ⟨rfl, h2⟩ | ⟨b, hb, h2⟩
          · have e1 : askI (fun f => mxE (fun e => tlC (fun v => seenB F.1 F.2 (nmR A.2) (se 0) (se 1) (nI v) A.1 (SV V)) (fun b f => wF F.1 F.2 (nmR A.2) (se 0) (se 1) (nI b) A.1 f) f e 10) 6) (0 + 1) = (nI 0, (fun f => mxE (fun e => tlC (fun v => seenB F.1 F.2 (nmR A.2) (se 0) (se 1) (nI v) A.1 (SV V)) (fun b f => wF F.1 F.2 (nmR A.2) (se 0) (se 1) (nI b) A.1 f) f e 10) 6) 0) := askI_gt (by rw [h2]; exact hmA 0)
            refine go_iload dX12_askNow_141 rfl ?_
            refine go_bipush (6) dX12_askNow_143 (by decide) ?_
            refine go_icmp_ge 174 dX12_askNow_145 (by decide) (fun _ => ?_) (fun c_145 => absurd (by decide) c_145)
            refine go_iload_n dX12_askNow_174 rfl ?_
            refine go_iconst (-1) dX12_askNow_175 (by decide) ?_
            refine go_icmp_eq 186 dX12_askNow_176 (by decide) (fun _ => ?_) (fun c_176 => absurd (by rw [h2]) c_176)
            refine go_iconst (1) dX12_askNow_186 (by decide) ?_
            refine go_goto 191 dX12_askNow_187 (by decide) ?_
            refine go_istore dX12_askNow_191 (by decide) ?_
            refine go_iload dX12_askNow_193 rfl ?_
            refine go_if_eq 203 dX12_askNow_195 (by decide) (fun c_195 => absurd c_195 (by decide)) (fun _ => ?_)
            refine go_iload dX12_askNow_198 rfl ?_
            refine go_goto 204 dX12_askNow_200 (by decide) ?_
            refine go_istore_n dX12_askNow_204 (by decide) ?_
            refine go_iload dX12_askNow_205 rfl ?_
            refine go_if_eq 215 dX12_askNow_207 (by decide) (fun c_207 => absurd c_207 (by decide)) (fun _ => ?_)
            refine go_iload dX12_askNow_210 rfl ?_
            refine go_goto 217 dX12_askNow_212 (by decide) ?_
            refine go_istore dX12_askNow_217 (by decide) ?_
            refine go_iincN (1) dX12_askNow_219 rfl (by decide) (by decide) ?_
            refine go_goto 126 dX12_askNow_222 (by decide) ?_
            have this := fun x6 x7 => ih (0 + 1) ((fun f => mxE (fun e => tlC (fun v => seenB F.1 F.2 (nmR A.2) (se 0) (se 1) (nI v) A.1 (SV V)) (fun b f => wF F.1 F.2 (nmR A.2) (se 0) (se 1) (nI b) A.1 f) f e 10) 6) 0) x6 x7 (by omega) (Or.inr (by rw [e1]))
            rw [e1] at this
            exact this _ _
          · obtain rfl := hl.resolve_left (by omega)
            refine go_iload dX12_askNow_141 rfl ?_
            refine go_bipush (6) dX12_askNow_143 (by decide) ?_
            refine go_icmp_ge 174 dX12_askNow_145 (by decide) (fun _ => ?_) (fun c_145 => absurd (by decide) c_145)
            refine go_iload_n dX12_askNow_174 rfl ?_
            refine go_iconst (-1) dX12_askNow_175 (by decide) ?_
            refine go_icmp_eq 186 dX12_askNow_176 (by decide) (fun c_176 => absurd c_176 (by rw [h2]; exact nI_ne1 (by omega))) (fun _ => ?_)
            refine go_iload dX12_askNow_179 rfl ?_
            refine go_iload dX12_askNow_181 rfl ?_
            refine go_cut2 (J := 191) (fun v => v = if (askI (fun f => mxE (fun e => tlC (fun v => seenB F.1 F.2 (nmR A.2) (se 0) (se 1) (nI v) A.1 (SV V)) (fun b f => wF F.1 F.2 (nmR A.2) (se 0) (se 1) (nI b) A.1 f) f e 10) 6) f).2 ≤ (fun f => mxE (fun e => tlC (fun v => seenB F.1 F.2 (nmR A.2) (se 0) (se 1) (nI v) A.1 (SV V)) (fun b f => wF F.1 F.2 (nmR A.2) (se 0) (se 1) (nI b) A.1 f) f e 10) 6) f then (0 : Int32) else 1) (fun v_191 hv_191 => ?_) (fun kk_191 => ?_)
            case refine_2 =>
              refine go_icmp_ge 190 dX12_askNow_183 (by decide) (fun c_183 => ?_) (fun c_183 => ?_)
              · refine go_iconst (0) dX12_askNow_190 (by decide) ?_
                exact kk_191 _ (by first | exact (if_pos c_183).symm | exact (if_neg c_183).symm)
              · refine go_iconst (1) dX12_askNow_186 (by decide) ?_
                refine go_goto 191 dX12_askNow_187 (by decide) ?_
                exact kk_191 _ (by first | exact (if_pos c_183).symm | exact (if_neg c_183).symm)
            refine go_istore dX12_askNow_191 (by decide) ?_
            refine go_iload dX12_askNow_193 rfl ?_
            refine go_cut1 (J := 204) (fun v => v = (askI (fun f => mxE (fun e => tlC (fun v => seenB F.1 F.2 (nmR A.2) (se 0) (se 1) (nI v) A.1 (SV V)) (fun b f => wF F.1 F.2 (nmR A.2) (se 0) (se 1) (nI b) A.1 f) f e 10) 6) (f + 1)).1) (fun v_204 hv_204 => ?_) (fun kk_204 => ?_)
            case refine_2 =>
              refine go_if_eq 203 dX12_askNow_195 (by decide) (fun c_195 => ?_) (fun c_195 => ?_)
              · refine go_iload_n dX12_askNow_203 rfl ?_
                exact kk_204 _ (by
                  by_cases q : (askI (fun f => mxE (fun e => tlC (fun v => seenB F.1 F.2 (nmR A.2) (se 0) (se 1) (nI v) A.1 (SV V)) (fun b f => wF F.1 F.2 (nmR A.2) (se 0) (se 1) (nI b) A.1 f) f e 10) 6) f).2 ≤ (fun f => mxE (fun e => tlC (fun v => seenB F.1 F.2 (nmR A.2) (se 0) (se 1) (nI v) A.1 (SV V)) (fun b f => wF F.1 F.2 (nmR A.2) (se 0) (se 1) (nI b) A.1 f) f e 10) 6) f
                  · rw [if_pos q] at hv_191
                    first
                    | exact absurd hv_191 c_195
                    | rw [askI_le q]
                  · rw [if_neg q] at hv_191
                    first
                    | exact absurd (hv_191.symm.trans c_195) (by decide)
                    | rw [askI_gt q])
              · refine go_iload dX12_askNow_198 rfl ?_
                refine go_goto 204 dX12_askNow_200 (by decide) ?_
                exact kk_204 _ (by
                  by_cases q : (askI (fun f => mxE (fun e => tlC (fun v => seenB F.1 F.2 (nmR A.2) (se 0) (se 1) (nI v) A.1 (SV V)) (fun b f => wF F.1 F.2 (nmR A.2) (se 0) (se 1) (nI b) A.1 f) f e 10) 6) f).2 ≤ (fun f => mxE (fun e => tlC (fun v => seenB F.1 F.2 (nmR A.2) (se 0) (se 1) (nI v) A.1 (SV V)) (fun b f => wF F.1 F.2 (nmR A.2) (se 0) (se 1) (nI b) A.1 f) f e 10) 6) f
                  · rw [if_pos q] at hv_191
                    first
                    | exact absurd hv_191 c_195
                    | rw [askI_le q]
                  · rw [if_neg q] at hv_191
                    first
                    | exact absurd (hv_191.symm.trans c_195) (by decide)
                    | rw [askI_gt q])
            refine go_istore_n dX12_askNow_204 (by decide) ?_
            refine go_iload dX12_askNow_205 rfl ?_
            refine go_cut1 (J := 217) (fun v => v = (askI (fun f => mxE (fun e => tlC (fun v => seenB F.1 F.2 (nmR A.2) (se 0) (se 1) (nI v) A.1 (SV V)) (fun b f => wF F.1 F.2 (nmR A.2) (se 0) (se 1) (nI b) A.1 f) f e 10) 6) (f + 1)).2) (fun v_217 hv_217 => ?_) (fun kk_217 => ?_)
            case refine_2 =>
              refine go_if_eq 215 dX12_askNow_207 (by decide) (fun c_207 => ?_) (fun c_207 => ?_)
              · refine go_iload dX12_askNow_215 rfl ?_
                exact kk_217 _ (by
                  by_cases q : (askI (fun f => mxE (fun e => tlC (fun v => seenB F.1 F.2 (nmR A.2) (se 0) (se 1) (nI v) A.1 (SV V)) (fun b f => wF F.1 F.2 (nmR A.2) (se 0) (se 1) (nI b) A.1 f) f e 10) 6) f).2 ≤ (fun f => mxE (fun e => tlC (fun v => seenB F.1 F.2 (nmR A.2) (se 0) (se 1) (nI v) A.1 (SV V)) (fun b f => wF F.1 F.2 (nmR A.2) (se 0) (se 1) (nI b) A.1 f) f e 10) 6) f
                  · rw [if_pos q] at hv_191
                    first
                    | exact absurd hv_191 c_207
                    | rw [askI_le q]
                  · rw [if_neg q] at hv_191
                    first
                    | exact absurd (hv_191.symm.trans c_207) (by decide)
                    | rw [askI_gt q])
              · refine go_iload dX12_askNow_210 rfl ?_
                refine go_goto 217 dX12_askNow_212 (by decide) ?_
                exact kk_217 _ (by
                  by_cases q : (askI (fun f => mxE (fun e => tlC (fun v => seenB F.1 F.2 (nmR A.2) (se 0) (se 1) (nI v) A.1 (SV V)) (fun b f => wF F.1 F.2 (nmR A.2) (se 0) (se 1) (nI b) A.1 f) f e 10) 6) f).2 ≤ (fun f => mxE (fun e => tlC (fun v => seenB F.1 F.2 (nmR A.2) (se 0) (se 1) (nI v) A.1 (SV V)) (fun b f => wF F.1 F.2 (nmR A.2) (se 0) (se 1) (nI b) A.1 f) f e 10) 6) f
                  · rw [if_pos q] at hv_191
                    first
                    | exact absurd hv_191 c_207
                    | rw [askI_le q]
                  · rw [if_neg q] at hv_191
                    first
                    | exact absurd (hv_191.symm.trans c_207) (by decide)
                    | rw [askI_gt q])
            refine go_istore dX12_askNow_217 (by decide) ?_
            refine go_iincN (1) dX12_askNow_219 rfl (by decide) (by decide) ?_
            refine go_goto 126 dX12_askNow_222 (by decide) ?_
            rw [nI_1, hv_204, hv_217]
            exact ih (f + 1) _ _ _ (by omega) (Or.inr rfl)
        | succ d2 ih2 =>
          intro e he
          refine go_iload dX12_askNow_141 rfl ?_
          refine go_bipush (6) dX12_askNow_143 (by decide) ?_
          refine go_icmp_ge 174 dX12_askNow_145 (by decide) (fun c_145 => absurd c_145 (nI_ge (b := 6) (by omega) (by decide))) (fun _ => ?_)
          refine go_aload_n dX12_askNow_148 rfl ?_
          refine go_getf fX12_68 dX12_askNow_149 rfl rfl ?_
          refine go_bipush (6) dX12_askNow_152 (by decide) ?_
          refine go_iload dX12_askNow_154 rfl ?_
          refine go_imul dX12_askNow_156 ?_
          refine go_iload dX12_askNow_157 rfl ?_
          refine go_iadd dX12_askNow_159 ?_
          rw [show (6 : Int32) * nI f + nI e = nI (6 * f + e) by rw [show (6 : Int32) = nI 6 from rfl, pk_mul, nI_add]]
          refine go_iald dX12_askNow_160 rfl (vp_in_nI (by omega) (by decide)) ?_
          simp only [nI_clamp (show 6 * f + e < 2 ^ 31 by omega)]
          rw [hv f e (by omega) (by omega)]
          refine go_iload dX12_askNow_161 rfl ?_
          refine go_callSi (z := MX12_greater) [] dX12_askNow_163 lX12_143 sX12_greater (ev_X12_greater _ _) rfl rfl rfl rfl rfl rfl ?_
          refine go_istore dX12_askNow_166 (by decide) ?_
          refine go_iincN (1) dX12_askNow_168 rfl (by decide) (by decide) ?_
          refine go_goto 141 dX12_askNow_171 (by decide) ?_
          rw [nI_1]
          have e3 : (if tlC (fun v => seenB F.1 F.2 (nmR A.2) (se 0) (se 1) (nI v) A.1 (SV V)) (fun b f => wF F.1 F.2 (nmR A.2) (se 0) (se 1) (nI b) A.1 f) f e 10 ≤ (mxE (fun e => tlC (fun v => seenB F.1 F.2 (nmR A.2) (se 0) (se 1) (nI v) A.1 (SV V)) (fun b f => wF F.1 F.2 (nmR A.2) (se 0) (se 1) (nI b) A.1 f) f e 10) e) then (mxE (fun e => tlC (fun v => seenB F.1 F.2 (nmR A.2) (se 0) (se 1) (nI v) A.1 (SV V)) (fun b f => wF F.1 F.2 (nmR A.2) (se 0) (se 1) (nI b) A.1 f) f e 10) e) else tlC (fun v => seenB F.1 F.2 (nmR A.2) (se 0) (se 1) (nI v) A.1 (SV V)) (fun b f => wF F.1 F.2 (nmR A.2) (se 0) (se 1) (nI b) A.1 f) f e 10) = (mxE (fun e => tlC (fun v => seenB F.1 F.2 (nmR A.2) (se 0) (se 1) (nI v) A.1 (SV V)) (fun b f => wF F.1 F.2 (nmR A.2) (se 0) (se 1) (nI b) A.1 f) f e 10) (e + 1)) := by
            rw [mxE_lt]
            by_cases q : (mxE (fun e => tlC (fun v => seenB F.1 F.2 (nmR A.2) (se 0) (se 1) (nI v) A.1 (SV V)) (fun b f => wF F.1 F.2 (nmR A.2) (se 0) (se 1) (nI b) A.1 f) f e 10) e) < tlC (fun v => seenB F.1 F.2 (nmR A.2) (se 0) (se 1) (nI v) A.1 (SV V)) (fun b f => wF F.1 F.2 (nmR A.2) (se 0) (se 1) (nI b) A.1 f) f e 10
            · rw [if_pos q, if_neg (Int32.not_le.mpr q)]
            · rw [if_neg q, if_pos (Int32.not_lt.mp q)]
          rw [e3]
          exact ih2 (e + 1) (by omega)
    | succ d ih =>
      intro b y R al x4 hb hv
      refine go_iload_n dX12_askNow_35 rfl ?_
      refine go_bipush (10) dX12_askNow_36 (by decide) ?_
      refine go_icmp_ge 107 dX12_askNow_38 (by decide) (fun c_38 => absurd c_38 (nI_ge (b := 10) (by omega) (by decide))) (fun _ => ?_)
      refine go_iload_n dX12_askNow_41 rfl ?_
      refine go_iload_n dX12_askNow_42 rfl ?_
      refine go_callSi (z := MX12_isIn) [] dX12_askNow_43 lX12_149 sX12_isIn (ev_X12_isIn (brbN (fun v => seenB F.1 F.2 (nmR A.2) (se 0) (se 1) (nI v) A.1 (SV V)) 10) b (Nat.lt_of_lt_of_le (brb_lt _ _) (by decide)) (by omega)) rfl rfl rfl rfl rfl rfl ?_
      rw [show (brbN (fun v => seenB F.1 F.2 (nmR A.2) (se 0) (se 1) (nI v) A.1 (SV V)) 10).testBit b = (fun v => seenB F.1 F.2 (nmR A.2) (se 0) (se 1) (nI v) A.1 (SV V)) b by rw [brb_bit, decide_eq_true (show b < 10 by omega), Bool.true_and]]
      refine go_if_eq 101 dX12_askNow_46 (by decide) (fun c_46 => ?_) (fun c_46 => ?_)
      · refine go_iincN (1) dX12_askNow_101 rfl (by decide) (by decide) ?_
        refine go_goto 35 dX12_askNow_104 (by decide) ?_
        rw [nI_1]
        exact ih (b + 1) y R al _ (by omega) (fun f e hf he => by rw [hv f e hf he, tlC, if_neg (fun q => bool0 c_46 q.1)])
      · refine go_aload_n dX12_askNow_49 rfl ?_
        refine go_getf fX12_34 dX12_askNow_50 rfl rfl ?_
        refine go_iconst (2) dX12_askNow_53 (by decide) ?_
        refine go_iload_n dX12_askNow_54 rfl ?_
        refine go_iast dX12_askNow_55 rfl (vp_in_nI (n := 2) (by decide) (by decide)) ?_
        rw [show upd (upd se 2 y) (2 : Int32).toNatClampNeg (nI b) = upd se 2 (nI b) from upd_upd se 2 y (nI b)]
        refine go_aload_n dX12_askNow_56 rfl ?_
        refine go_callVs (z := MX12_goes) dX12_askNow_57 lX12_162 sX12_goes (ev_X12_goes U lt B F A (upd se 2 (nI b)) R O V al dr hF hA s0 h9 h0) rfl rfl rfl ⟨_, _, rfl⟩ rfl rfl (fun v w1 h => by obtain ⟨-, F2, rfl, -⟩ := h; rfl) (fun v_57 w_57 h_57 => ?_)
        obtain ⟨rfl, R2, rfl, hR⟩ := h_57
        refine go_iconst (0) dX12_askNow_60 (by decide) ?_
        refine go_istore dX12_askNow_61 (by decide) ?_
        have hok := bool1 c_46
        suffices inner : ∀ (d i : Nat) (al : AF), i + d = F.1 → (∀ f e, f < i → e < 6 → al (6 * f + e) = tlC (fun v => seenB F.1 F.2 (nmR A.2) (se 0) (se 1) (nI v) A.1 (SV V)) (fun b f => wF F.1 F.2 (nmR A.2) (se 0) (se 1) (nI b) A.1 f) f e (b + 1)) → (∀ f e, i ≤ f → f < F.1 → e < 6 → al (6 * f + e) = tlC (fun v => seenB F.1 F.2 (nmR A.2) (se 0) (se 1) (nI v) A.1 (SV V)) (fun b f => wF F.1 F.2 (nmR A.2) (se 0) (se 1) (nI b) A.1 f) f e b) → Go X0 MX12_askNow (fun v w => v = some (.int (askI (fun f => mxE (fun e => tlC (fun v => seenB F.1 F.2 (nmR A.2) (se 0) (se 1) (nI v) A.1 (SV V)) (fun b f => wF F.1 F.2 (nmR A.2) (se 0) (se 1) (nI b) A.1 f) f e 10) 6) F.1).1) ∧ ∃ (R2 : TR) (al2 : AF), w = (mwd U lt B F A se R2 O V al2 dr) ∧ RI F A se R2) 21 0 0 63 [some (.ref 0), some (.int (nI (brbN (fun v => seenB F.1 F.2 (nmR A.2) (se 0) (se 1) (nI v) A.1 (SV V)) 10))), some (.int (se 2)), some (.int (nI b)), some (.int (nI i)), none, none, none] [] (mwd U lt B F A (upd se 2 (nI b)) R2 O V al dr) from inner F.1 0 al (by omega) (fun f e h => absurd h (by omega)) (fun f e _ hf he => hv f e hf he)
        intro d
        induction d with
        | zero =>
          intro i al hi h1 h2
          refine go_iload dX12_askNow_63 rfl ?_
          refine go_aload_n dX12_askNow_65 rfl ?_
          refine go_getf fX12_112 dX12_askNow_66 rfl rfl ?_
          refine go_icmp_ge 101 dX12_askNow_69 (by decide) (fun _ => ?_) (fun c_69 => absurd (nI_le (by omega) (by omega)) c_69)
          refine go_iincN (1) dX12_askNow_101 rfl (by decide) (by decide) ?_
          refine go_goto 35 dX12_askNow_104 (by decide) ?_
          rw [nI_1]
          exact ih (b + 1) (nI b) R2 al _ (by omega) (fun f e hf he => h1 f e (by omega) he)
        | succ d ih2 =>
          intro i al hi h1 h2
          obtain ⟨e0, he0, hF2⟩ := wF_in F.1 F.2 (nmR A.2) (se 0) (se 1) (nI b) A.1 i
          refine go_iload dX12_askNow_63 rfl ?_
          refine go_aload_n dX12_askNow_65 rfl ?_
          refine go_getf fX12_112 dX12_askNow_66 rfl rfl ?_
          refine go_icmp_ge 101 dX12_askNow_69 (by decide) (fun c_69 => absurd c_69 (nI_ge (by omega) (by omega))) (fun _ => ?_)
          refine go_aload_n dX12_askNow_72 rfl ?_
          refine go_getf fX12_68 dX12_askNow_73 rfl rfl ?_
          refine go_bipush (6) dX12_askNow_76 (by decide) ?_
          refine go_iload dX12_askNow_78 rfl ?_
          refine go_imul dX12_askNow_80 ?_
          refine go_aload_n dX12_askNow_81 rfl ?_
          refine go_iload dX12_askNow_82 rfl ?_
          refine go_callVsi (z := MX12_fateOf) dX12_askNow_84 lX12_201 sX12_fateOf (ev_X12_fateOf U lt B F A (upd se 2 (nI b)) R2 O V al dr hA hR i (by omega)) rfl rfl rfl ⟨_, _, rfl⟩ rfl rfl ?_
          refine go_iadd dX12_askNow_87 ?_
          refine go_iconst (1) dX12_askNow_88 (by decide) ?_
          refine go_iadd dX12_askNow_89 ?_
          rw [Int32.add_assoc, show wF F.1 F.2 (nmR A.2) (upd se 2 (nI b) 0) (upd se 2 (nI b) 1) (upd se 2 (nI b) 2) A.1 i + 1 = nI e0 from hF2, show (6 : Int32) * nI i + nI e0 = nI (6 * i + e0) by rw [show (6 : Int32) = nI 6 from rfl, pk_mul, nI_add]]
          refine go_dup2 dX12_askNow_90 rfl rfl ?_
          refine go_iald dX12_askNow_91 rfl (vp_in_nI (by omega) (by decide)) ?_
          refine go_iconst (1) dX12_askNow_92 (by decide) ?_
          refine go_iadd dX12_askNow_93 ?_
          refine go_iast dX12_askNow_94 rfl (vp_in_nI (by omega) (by decide)) ?_
          refine go_iincN (1) dX12_askNow_95 rfl (by decide) (by decide) ?_
          refine go_goto 63 dX12_askNow_98 (by decide) ?_
          rw [nI_1]
          simp only [nI_clamp (show 6 * i + e0 < 2 ^ 31 by omega)]
          refine ih2 (i + 1) _ (by omega) (fun f e hf he => ?_) (fun f e hf hf8 he => ?_)
          · by_cases hfi : f = i
            · subst hfi
              rw [tlC]
              by_cases hee : e = e0
              · subst hee
                rw [pk_us, if_pos ⟨hok, hF2⟩, h2 f e (Nat.le_refl _) (by omega) he]
              · rw [pk_un (by omega), if_neg, h2 f e (Nat.le_refl _) (by omega) he]
                rintro ⟨-, q⟩
                exact hee ((nI_eq (by omega) (by omega)).mp (q.symm.trans hF2))
            · rw [pk_un (by omega)]
              exact h1 f e (by omega) he
          · rw [pk_un (by omega)]
            exact h2 f e (by omega) hf8 he
  | succ d ih =>
    intro i al hi hz
    refine go_iload_n dX12_askNow_14 rfl ?_
    refine go_bipush (48) dX12_askNow_15 (by decide) ?_
    refine go_icmp_ge 33 dX12_askNow_17 (by decide) (fun c_17 => absurd c_17 (nI_ge (b := 48) (by omega) (by decide))) (fun _ => ?_)
    refine go_aload_n dX12_askNow_20 rfl ?_
    refine go_getf fX12_68 dX12_askNow_21 rfl rfl ?_
    refine go_iload_n dX12_askNow_24 rfl ?_
    refine go_iconst (0) dX12_askNow_25 (by decide) ?_
    refine go_iast dX12_askNow_26 rfl (vp_in_nI (by omega) (by decide)) ?_
    refine go_iincN (1) dX12_askNow_27 rfl (by decide) (by decide) ?_
    refine go_goto 14 dX12_askNow_30 (by decide) ?_
    rw [nI_1]
    simp only [nI_clamp (show i < 2 ^ 31 by omega)]
    exact ih (i + 1) (upd al i 0) (by omega) (fun j h => by
      by_cases hj : j = i
      · subst hj; exact pk_us
      · rw [pk_un hj]; exact hz j (by omega))
