/-! WHAT THE CLASS'S METHOD PROMISES OF THE REFERENCE'S -/
theorem d_det {P : e_Pg} {k pc : Nat} {lv : List (Nat × Value)} {st : List Value} {mem : List e_C} {y y' : Option Value × List e_C} (h : e_Ev P k pc lv st mem y) (h' : e_Ev P k pc lv st mem y') : y = y' := by
  obtain ⟨a, ha⟩ := h
  obtain ⟨b, hb⟩ := h'
  have h3 := e_run_ge P (Nat.le_max_left a b) _ _ _ _ _ _ ha
  have h4 := e_run_ge P (Nat.le_max_right a b) _ _ _ _ _ _ hb
  rw [h3] at h4
  exact Option.some.inj h4
theorem d_prom {P : e_Pg} {Y : h_L} {k1 k2 : Nat} {L1 L2 : List (Nat × Value)} {σ : h_S} (hi : d_inj Y) {Q1 G : Option Value → h_S → Prop} {QQ : h_S → d_Q} (hs : h_T P Y k1 0 L1 [] σ Q1) (hp : ∀ r τ, Q1 r τ → d_P P Y k1 0 L1 σ k2 0 L2 τ (QQ τ))
    (kk : ∀ r τ, Q1 r τ → (∀ (Q2 : Option Value → h_S → Prop), (∀ τ1 r2 υ mem, h_R Y τ mem → h_R Y τ1 mem → QQ τ r τ1 r2 υ → Q2 r2 υ) → h_T P Y k2 0 L2 [] τ Q2) → G r τ) : h_T P Y k1 0 L1 [] σ G := by
  intro lv mem hl hR
  obtain ⟨y, τ, h1, h2, h3⟩ := hs lv mem hl hR
  refine ⟨y, τ, h1, h2, kk _ _ h3 (fun Q2 k2' lv2 mem2 hl2 hR2 => ?_)⟩
  have e : mem2 = y.2 := hi τ _ _ hR2 h2
  subst e
  obtain ⟨y1, τ1, y2, υ, g1, g2, g3, g4, g5⟩ := d_P_run (hp _ _ h3) hl hR hl2 hR2
  have e : y1 = y := d_det g1 h1
  subst e
  exact ⟨y2, υ, g3, g4, k2' τ1 y2.1 υ _ h2 g2 g5⟩
theorem d_tape.z {s : h_S} (h1 : s 64 1 = 0) (h2 : s 98 11 = 0) : d_tape s s := ⟨fun i a b => by omega, by omega⟩
theorem d_tape.fd {s s' : h_S} {a a' : Int} (h : d_tape s s) (e1 : s' 64 1 = s 64 1 + 1) (e2 : s' 98 11 = s 98 11 + 1) (f1 : ∀ j, s' 65 j = if j = s 64 1 then a else s 65 j) (f2 : ∀ j, s' 102 j = if j = s 98 11 then a' else s 102 j) (ha : a = a') : d_tape s' s' := by
  have h2 := h.2
  refine ⟨fun i h0 h1 => ?_, by omega⟩
  rw [f1, f2, ← h2]
  by_cases hi : i = s 64 1
  · rw [if_pos hi, if_pos hi, ha]
  · rw [if_neg hi, if_neg hi]
    exact h.1 i h0 (by omega)
theorem d_tape.le {s s' : h_S} (h : d_tape s s) (e1 : s' 64 1 = s' 98 11) (e2 : s' 64 1 ≤ s 64 1) (f1 : ∀ j, s' 65 j = s 65 j) (f2 : ∀ j, s' 102 j = s 102 j) : d_tape s' s' := by
  refine ⟨fun i h0 h1 => ?_, e1⟩
  rw [f1, f2]
  exact h.1 i h0 (by omega)
set_option maxRecDepth 100000 in
set_option maxHeartbeats 100000000 in
theorem v_textXM {ns : Nat} (σ : h_S) (hI : h_I σ) (hT : d_tape σ σ) (hP : σ 64 4 = σ 98 16) {Q : Option Value → h_S → Prop} (kk : ∀ (r : Int32) (b : Int) (hb : r.toInt = b) (τ : h_S), h_I τ → h_F (k_in kf_v_textX) τ σ → (∀ {Q2 : Option Value → h_S → Prop}, (∀ (r2 : Int32) (b2 : Int) (hb2 : r2.toInt = b2) (υ : h_S), h_I υ → h_F (k_in k_tm) υ τ → (b = b2) → (υ 63 2 = υ 98 12) → (υ 64 4 = υ 98 16) → (υ 64 1 = 0) → (υ 98 11 = 0) → ((1 ≤ υ 63 2 ∧ υ 90 2 = σ 90 2 ∧ υ 98 29 = σ 98 29 ∧ υ 62 0 = σ 62 0 ∧ υ 62 1 = σ 62 1 ∧ υ 110 0 = σ 110 0 ∧ υ 110 1 = σ 110 1) ∨ (υ 63 2 = 0 ∧ υ 90 2 = 0 ∧ υ 98 29 = 0 ∧ υ 62 0 = 0 ∧ υ 62 1 = 0 ∧ υ 110 0 = 0 ∧ υ 110 1 = 0)) → (υ 63 2 = 0 → c_tx υ υ) → (1 ≤ υ 63 2 → c_un σ σ υ υ) → Q2 (some (.int r2)) υ) → h_T g_P (g_Y ns) 155 0 [(0, .ref 98)] [] τ Q2) → Q (some (.int r)) τ) : h_T g_P (g_Y ns) 84 0 [(0, .ref 9)] [] σ Q := by
  refine d_prom (g_inj ns) (k2 := 155) (L2 := [(0, .ref 98)]) (Q1 := fun r τ => ∃ x : Int32, r = some (.int x) ∧ h_I τ ∧ h_F (k_in kf_v_textX) τ σ) (QQ := fun τ => fun r1 τ1 r2 τ2 => ∃ (x1 : Int32) (x2 : Int32), r1 = some (.int x1) ∧ r2 = some (.int x2) ∧ h_I τ1 ∧ h_I τ2 ∧ h_F (k_in k_tx) τ1 σ ∧ h_F (k_in k_tm) τ2 τ ∧ (x1.toInt = x2.toInt) ∧ (τ1 63 2 = τ2 98 12) ∧ (τ1 64 4 = τ2 98 16) ∧ (τ1 64 1 = 0) ∧ (τ2 98 11 = 0) ∧ (τ1 63 2 = 0 → c_tx τ1 τ2) ∧ (1 ≤ τ1 63 2 → c_un σ τ τ1 τ2) ∧ (((1 ≤ τ1 63 2 ∧ τ1 63 2 ≤ 6) ∧ (1 ≤ τ2 98 12 ∧ τ2 98 12 ≤ 6) ∧ (τ1 90 2 = σ 90 2) ∧ (τ2 98 29 = τ 98 29) ∧ (τ1 62 0 = σ 62 0) ∧ (τ1 62 1 = σ 62 1) ∧ (τ2 110 0 = τ 110 0) ∧ (τ2 110 1 = τ 110 1)) ∨ ((τ1 63 2 = 0) ∧ (τ2 98 12 = 0) ∧ (τ1 90 2 = 0) ∧ (τ2 98 29 = 0) ∧ (τ1 62 0 = 0) ∧ (τ1 62 1 = 0) ∧ (τ2 110 0 = 0) ∧ (τ2 110 1 = 0)))) (v_textX σ hI (fun r b hb τ I G _ _ => ⟨r, rfl, I, G⟩)) ?_ ?_
  · rintro r τ ⟨x, -, I, G⟩
    refine pp_text hI I ?_ ?_ ?_
    · exact hT.fr2 rfl (fun _ => rfl) (fun i => G 102 i rfl) (G 98 11 rfl)
    · exact hP.trans (G 98 16 rfl).symm
    · intro r1 b1 hb1 r2 b2 hb2 τ1 τ2 I1 I2 G1 G2 q0 q1 q2 q3 q4 q5 q6 pc
      subst hb1
      subst hb2
      exact ⟨r1, r2, rfl, rfl, I1, I2, G1, G2, q0, q1, q2, q3, q4, q5, q6, pc⟩
  · rintro r τ ⟨x, rfl, I, G⟩ pm
    refine kk x _ rfl τ I G (fun {Q2} k2 => pm Q2 ?_)
    rintro τ1 r2 υ mem hR hR1 ⟨x1, x2, e1, rfl, I1, I2, G1, G2, q0, q1, q2, q3, q4, q5, q6, pc⟩
    cases e1
    have e_63_2 : υ 63 2 = τ1 63 2 := (G2 63 2 rfl).trans (d_same_f (q := 63) (j := 2) hR hR1 rfl rfl)
    have e_64_4 : υ 64 4 = τ1 64 4 := (G2 64 4 rfl).trans (d_same_f (q := 64) (j := 4) hR hR1 rfl rfl)
    have e_64_1 : υ 64 1 = τ1 64 1 := (G2 64 1 rfl).trans (d_same_f (q := 64) (j := 1) hR hR1 rfl rfl)
    have e_90_2 : υ 90 2 = τ1 90 2 := (G2 90 2 rfl).trans (d_same_f (q := 90) (j := 2) hR hR1 rfl rfl)
    have e_62_0 : υ 62 0 = τ1 62 0 := (G2 62 0 rfl).trans (d_same_a (q := 62) (j := 0) hR hR1 rfl (by decide) (by decide))
    have e_62_1 : υ 62 1 = τ1 62 1 := (G2 62 1 rfl).trans (d_same_a (q := 62) (j := 1) hR hR1 rfl (by decide) (by decide))
    have g_1 : τ 98 29 = σ 98 29 := G 98 29 rfl
    have g_2 : τ 110 0 = σ 110 0 := G 110 0 rfl
    have g_3 : τ 110 1 = σ 110 1 := G 110 1 rfl
    have ec : c_eq true υ 10 τ1 10 := (c_eq.fr G2 rfl).tr (c_eq.same hR hR1)
    have w0 : υ 63 2 = 0 → c_tx υ υ := fun z => (q5 (by omega)).mv I1 ec
    have w1 : 1 ≤ υ 63 2 → c_un σ σ υ υ := fun z => by
      obtain ⟨v1, v2, v3, v4⟩ := q6 (by omega)
      exact ⟨ec.tr v1, fun j => (v2 j).trans (G 99 j rfl), v3.trans (G 98 1 rfl), v4.trans (G 98 2 rfl)⟩
    refine k2 x2 _ rfl υ I2 G2 (by omega) (by omega) (by omega) (by omega) (by omega) ?_ w0 w1
    rcases pc with pc | pc
    · exact Or.inl ⟨by omega, by omega, by omega, by omega, by omega, by omega, by omega⟩
    · exact Or.inr ⟨by omega, by omega, by omega, by omega, by omega, by omega, by omega⟩
