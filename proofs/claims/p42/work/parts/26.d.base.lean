/-! TWO RUNS SIDE BY SIDE: each over its own memory, walked in turns -/
abbrev d_Fr : Type := Nat × Nat × List (Nat × Value) × List Value
/-- the callers go on, one behind the other -/
def d_Es (P : e_Pg) (Y : h_L) : List d_Fr → (Option Value × List e_C) → (Option Value × List e_C) → Prop
  | [], y, z => z = y
  | f :: fs, y, z => (∃ τ, h_R Y τ y.2) ∧ ∃ w, e_Ev P f.1 f.2.1 f.2.2.1 (y.1.toList ++ f.2.2.2) y.2 w ∧ d_Es P Y fs w z
/-- a run with its callers, to its end -/
def d_Ru (P : e_Pg) (Y : h_L) (t : d_Fr) (cs : List d_Fr) (mem : List e_C) (z : Option Value × List e_C) : Prop := ∃ y, e_Ev P t.1 t.2.1 t.2.2.1 t.2.2.2 mem y ∧ d_Es P Y cs y z
/-- what the callers cs make of an answer -/
def d_cs (P : e_Pg) (Y : h_L) (cs : List d_Fr) (G : Option Value → h_S → Prop) : Option Value → h_S → Prop := fun r τ => ∀ mem, h_R Y τ mem → ∃ (z : Option Value × List e_C) (υ : h_S), d_Es P Y cs (r, mem) z ∧ h_R Y υ z.2 ∧ G z.1 υ
abbrev d_Q : Type := Option Value → h_S → Option Value → h_S → Prop
/-- the first walks, the second waits -/
def d_L (P : e_Pg) (Y : h_L) (t2 : d_Fr) (cs2 : List d_Fr) (mem2 : List e_C) (Q : d_Q) : Option Value → h_S → Prop := fun r1 τ1 => ∃ (z2 : Option Value × List e_C) (τ2 : h_S), d_Ru P Y t2 cs2 mem2 z2 ∧ h_R Y τ2 z2.2 ∧ Q r1 τ1 z2.1 τ2
/-- the second walks, the first waits -/
def d_M (P : e_Pg) (Y : h_L) (t1 : d_Fr) (cs1 : List d_Fr) (mem1 : List e_C) (Q : d_Q) : Option Value → h_S → Prop := fun r2 τ2 => ∃ (z1 : Option Value × List e_C) (τ1 : h_S), d_Ru P Y t1 cs1 mem1 z1 ∧ h_R Y τ1 z1.2 ∧ Q z1.1 τ1 r2 τ2
/-- the places tell the memory -/
def d_inj (Y : h_L) : Prop := ∀ (τ : h_S) (m m' : List e_C), h_R Y τ m → h_R Y τ m' → m = m'
section DD
variable {P : e_Pg} {Y : h_L} {k k1 k2 pc pc1 pc2 pc' : Nat} {L L1 L2 : List (Nat × Value)} {st st1 st2 : List Value} {σ σ1 σ2 : h_S} {Q : d_Q} {G : Option Value → h_S → Prop} {cs cs1 cs2 : List d_Fr}
theorem d_Es_ty : ∀ {cs : List d_Fr} {y z : Option Value × List e_C} {τ : h_S}, d_Es P Y cs y z → h_R Y τ z.2 → ∃ τ', h_R Y τ' y.2
  | [], y, z, τ, h, hz => by
    have h : z = y := h
    subst h
    exact ⟨τ, hz⟩
  | f :: fs, y, z, τ, h, hz => h.1
theorem d_cs.nil {r : Option Value} {τ : h_S} (h : G r τ) : d_cs P Y [] G r τ := fun mem hm => ⟨(r, mem), τ, rfl, hm, h⟩
/-- a run to be shown goes on with its callers -/
theorem d_T_run (h : h_T P Y k pc L st σ (d_cs P Y cs G)) {lv : List (Nat × Value)} {mem : List e_C} (hl : h_loc L lv) (hR : h_R Y σ mem) : ∃ (z : Option Value × List e_C) (υ : h_S), d_Ru P Y (k, pc, lv, st) cs mem z ∧ h_R Y υ z.2 ∧ G z.1 υ := by
  obtain ⟨y, τ, h1, h2, h3⟩ := h lv mem hl hR
  obtain ⟨z, υ, g1, g2, g3⟩ := h3 y.2 h2
  exact ⟨z, υ, ⟨y, h1, g1⟩, g2, g3⟩
theorem d_run_T (hi : d_inj Y) (h : ∀ lv mem, h_loc L lv → h_R Y σ mem → ∃ (z : Option Value × List e_C) (υ : h_S), d_Ru P Y (k, pc, lv, st) cs mem z ∧ h_R Y υ z.2 ∧ G z.1 υ) : h_T P Y k pc L st σ (d_cs P Y cs G) := by
  intro lv mem hl hR
  obtain ⟨z, υ, ⟨y, h1, h2⟩, h3, h4⟩ := h lv mem hl hR
  obtain ⟨τ, hτ⟩ := d_Es_ty h2 h3
  refine ⟨y, τ, h1, hτ, fun mem' hm => ?_⟩
  have e := hi τ mem' y.2 hm hτ
  subst e
  exact ⟨z, υ, h2, h3, h4⟩
/-- now the second walks -/
theorem d_toM (hi : d_inj Y) {lv2 : List (Nat × Value)} {mem2 : List e_C} (hl2 : h_loc L2 lv2) (hR2 : h_R Y σ2 mem2) (kk : ∀ lv1 mem1, h_loc L1 lv1 → h_R Y σ1 mem1 → h_T P Y k2 pc2 L2 st2 σ2 (d_cs P Y cs2 (d_M P Y (k1, pc1, lv1, st1) cs1 mem1 Q))) : h_T P Y k1 pc1 L1 st1 σ1 (d_cs P Y cs1 (d_L P Y (k2, pc2, lv2, st2) cs2 mem2 Q)) := by
  refine d_run_T hi (fun lv1 mem1 hl1 hR1 => ?_)
  obtain ⟨z2, τ2, h1, h2, z1, τ1, h3, h4, h5⟩ := d_T_run (kk lv1 mem1 hl1 hR1) hl2 hR2
  exact ⟨z1, τ1, h3, h4, z2, τ2, h1, h2, h5⟩
/-- now the first walks -/
theorem d_toL (hi : d_inj Y) {lv1 : List (Nat × Value)} {mem1 : List e_C} (hl1 : h_loc L1 lv1) (hR1 : h_R Y σ1 mem1) (kk : ∀ lv2 mem2, h_loc L2 lv2 → h_R Y σ2 mem2 → h_T P Y k1 pc1 L1 st1 σ1 (d_cs P Y cs1 (d_L P Y (k2, pc2, lv2, st2) cs2 mem2 Q))) : h_T P Y k2 pc2 L2 st2 σ2 (d_cs P Y cs2 (d_M P Y (k1, pc1, lv1, st1) cs1 mem1 Q)) := by
  refine d_run_T hi (fun lv2 mem2 hl2 hR2 => ?_)
  obtain ⟨z1, τ1, h1, h2, z2, τ2, h3, h4, h5⟩ := d_T_run (kk lv2 mem2 hl2 hR2) hl1 hR1
  exact ⟨z2, τ2, h3, h4, z1, τ1, h1, h2, h5⟩
/-- the first has ended -/
theorem d_endL {lv2 : List (Nat × Value)} {mem2 : List e_C} {r : Option Value} {τ : h_S} (hl2 : h_loc L2 lv2) (hR2 : h_R Y σ2 mem2) (kk : h_T P Y k2 pc2 L2 st2 σ2 (d_cs P Y cs2 (Q r τ))) : d_cs P Y [] (d_L P Y (k2, pc2, lv2, st2) cs2 mem2 Q) r τ := d_cs.nil (d_T_run kk hl2 hR2)
/-- the second has ended -/
theorem d_endM {lv1 : List (Nat × Value)} {mem1 : List e_C} {r : Option Value} {τ : h_S} (hl1 : h_loc L1 lv1) (hR1 : h_R Y σ1 mem1) (kk : h_T P Y k1 pc1 L1 st1 σ1 (d_cs P Y cs1 (fun r1 τ1 => Q r1 τ1 r τ))) : d_cs P Y [] (d_M P Y (k1, pc1, lv1, st1) cs1 mem1 Q) r τ := d_cs.nil (d_T_run kk hl1 hR1)
/-- back into a caller -/
theorem d_ret {lv : List (Nat × Value)} {rest : List Value} {v : Value} (hl : h_loc L lv) (kk : h_T P Y k pc L (v :: rest) σ (d_cs P Y cs G)) : d_cs P Y ((k, pc, lv, rest) :: cs) G (some v) σ := by
  intro mem hm
  obtain ⟨z, υ, ⟨y, h1, h2⟩, h3, h4⟩ := d_T_run kk hl hm
  exact ⟨z, υ, ⟨⟨σ, hm⟩, y, h1, h2⟩, h3, h4⟩
theorem d_retn {lv : List (Nat × Value)} {rest : List Value} (hl : h_loc L lv) (kk : h_T P Y k pc L rest σ (d_cs P Y cs G)) : d_cs P Y ((k, pc, lv, rest) :: cs) G none σ := by
  intro mem hm
  obtain ⟨z, υ, ⟨y, h1, h2⟩, h3, h4⟩ := d_T_run kk hl hm
  exact ⟨z, υ, ⟨⟨σ, hm⟩, y, h1, h2⟩, h3, h4⟩
theorem d_args : ∀ (vs : List Value) (b : Nat), (∀ p ∈ lv_args b vs, b ≤ p.1) ∧ h_loc (lv_args b vs) (lv_args b vs) := by
  intro vs
  induction vs with
  | nil => exact fun b => ⟨fun p hp => absurd hp List.not_mem_nil, fun p hp => absurd hp List.not_mem_nil⟩
  | cons v vs ih =>
    intro b
    obtain ⟨i1, i2⟩ := ih (if v.category = 2 then b + 2 else b + 1)
    have hlo : ∀ p ∈ lv_args (if v.category = 2 then b + 2 else b + 1) vs, b < p.1 := fun p hp => by
      have := i1 p hp
      split at this <;> omega
    unfold lv_args
    refine ⟨fun p hp => ?_, fun p hp => ?_⟩
    · rcases List.mem_cons.mp hp with rfl | hp
      · exact Nat.le_refl _
      · exact Nat.le_of_lt (hlo p hp)
    · rcases List.mem_cons.mp hp with rfl | hp
      · simp [e_get]
      · have hne : (b == p.1) = false := by have := hlo p hp; simp; omega
        unfold e_get
        rw [show ((b, v).1 == p.1) = false from hne]
        exact i2 p hp
/-- what a call of a method of an object asks for -/
def d_cal (P : e_Pg) (Y : h_L) (k pc : Nat) (st : List Value) (m pc' : Nat) (M : List (Nat × Value)) (rest : List Value) : Prop := ∃ (sp : Bool) (n np cn q : Nat) (nst : Bool) (fs : List (Option Value)), e_code P k pc = some ((bif sp then .invokespecial n else .invokevirtual n), 3) ∧ pc + 3 = pc' ∧ e_cal P k n = some (m, np, cn, nst) ∧ st.drop np = .ref q :: rest ∧ Y.1 q = some (.inr (cn, fs)) ∧ (!(m == 0) && (!(cn == 99) && (e_low rest && (e_room P k m (.ref q :: (st.take np).reverse) && (sp == (e_rmo P m).2.2))))) = true ∧ lv_args 0 (.ref q :: (st.take np).reverse) = M
theorem d_cal.ev {m : Nat} {M : List (Nat × Value)} {rest : List Value} (h : d_cal P Y k pc st m pc' M rest) {lv : List (Nat × Value)} {mem : List e_C} {y z : Option Value × List e_C} (hR : h_R Y σ mem) (h1 : e_Ev P m 0 M [] mem y) (h2 : e_Ev P k pc' lv (y.1.toList ++ rest) y.2 z) : e_Ev P k pc lv st mem z := by
  obtain ⟨sp, n, np, cn, q, nst, fs, hc, hp, hcal, hst, hY, hcd, hM⟩ := h
  obtain ⟨o, m1, m2, m3, m4⟩ := hR.obj hY
  obtain ⟨N, hN⟩ := e_two h1 h2
  refine e_Ev.of (x := ((bif sp then .invokespecial n else .invokevirtual n), 3)) hc (by cases sp <;> rfl) ⟨N, ?_⟩
  have he : e_one P (e_run P N) k pc lv st mem (bif sp then .invokespecial n else .invokevirtual n) = e_inv P (e_run P N) k pc lv st mem sp n := by cases sp <;> rfl
  show e_one P (e_run P N) k pc lv st mem (bif sp then .invokespecial n else .invokevirtual n) = _
  rw [he]
  unfold e_inv
  rw [Bool.and_eq_true] at hcd
  have hm0 : (m == 0) = false := by simpa using hcd.1
  subst hp
  subst hM
  simp only [hcal, hst, hm0, cond_false, m1, m2, beq_self_eq_true, Bool.true_and, hcd.2, cond_true]
  exact hN
theorem d_cal.loc {m : Nat} {M : List (Nat × Value)} {rest : List Value} (h : d_cal P Y k pc st m pc' M rest) : h_loc M M := by
  obtain ⟨sp, n, np, cn, q, nst, fs, hc, hp, hcal, hst, hY, hcd, hM⟩ := h
  rw [← hM]
  exact (d_args _ 0).2
/-- a call whose body is walked, the caller's locals being known -/
theorem d_call (hi : d_inj Y) {m : Nat} {M : List (Nat × Value)} {rest : List Value} (hc : d_cal P Y k pc st m pc' M rest) (kk : ∀ lv, h_loc L lv → h_T P Y m 0 M [] σ (d_cs P Y ((k, pc', lv, rest) :: cs) G)) : h_T P Y k pc L st σ (d_cs P Y cs G) := by
  refine d_run_T hi (fun lv mem hl hR => ?_)
  obtain ⟨z, υ, ⟨y, g1, -, w, g4, g5⟩, g6, g7⟩ := d_T_run (kk lv hl) hc.loc hR
  exact ⟨z, υ, ⟨w, hc.ev hR g1 g4, g5⟩, g6, g7⟩
end DD
/-- a contract of two methods: both run, each over its own memory -/
def d_P (P : e_Pg) (Y : h_L) (k1 pc1 : Nat) (L1 : List (Nat × Value)) (σ1 : h_S) (k2 pc2 : Nat) (L2 : List (Nat × Value)) (σ2 : h_S) (Q : d_Q) : Prop := ∀ lv2 mem2, h_loc L2 lv2 → h_R Y σ2 mem2 → h_T P Y k1 pc1 L1 [] σ1 (d_cs P Y [] (d_L P Y (k2, pc2, lv2, []) [] mem2 Q))
section DP
variable {P : e_Pg} {Y : h_L} {k1 k2 pc1 pc2 pc1' pc2' m1 m2 : Nat} {L1 L2 M1 M2 : List (Nat × Value)} {st1 st2 rest1 rest2 : List Value} {σ1 σ2 : h_S} {Q : d_Q} {cs1 cs2 : List d_Fr}
theorem d_P_run {Q : d_Q} (h : d_P P Y k1 pc1 L1 σ1 k2 pc2 L2 σ2 Q) {lv1 lv2 : List (Nat × Value)} {mem1 mem2 : List e_C} (hl1 : h_loc L1 lv1) (hR1 : h_R Y σ1 mem1) (hl2 : h_loc L2 lv2) (hR2 : h_R Y σ2 mem2) : ∃ (y1 : Option Value × List e_C) (τ1 : h_S) (y2 : Option Value × List e_C) (τ2 : h_S), e_Ev P k1 pc1 lv1 [] mem1 y1 ∧ h_R Y τ1 y1.2 ∧ e_Ev P k2 pc2 lv2 [] mem2 y2 ∧ h_R Y τ2 y2.2 ∧ Q y1.1 τ1 y2.1 τ2 := by
  obtain ⟨z1, τ1, ⟨y1, g1, g2⟩, g3, z2, τ2, ⟨y2, g4, g5⟩, g6, g7⟩ := d_T_run (h lv2 mem2 hl2 hR2) hl1 hR1
  have e1 : z1 = y1 := g2
  have e2 : z2 = y2 := g5
  subst e1
  subst e2
  exact ⟨z1, τ1, z2, τ2, g1, g3, g4, g6, g7⟩
/-- both call: by a contract of the two methods -/
theorem d_pcall (hi : d_inj Y) (hc1 : d_cal P Y k1 pc1 st1 m1 pc1' M1 rest1) (hc2 : d_cal P Y k2 pc2 st2 m2 pc2' M2 rest2) {lv1 : List (Nat × Value)} {mem1 : List e_C} (hR1 : h_R Y σ1 mem1)
    (kk : d_P P Y m1 0 M1 σ1 m2 0 M2 σ2 (fun r1 τ1 r2 τ2 => ∀ mem1', h_R Y τ1 mem1' → h_T P Y k2 pc2' L2 (r2.toList ++ rest2) τ2 (d_cs P Y cs2 (d_M P Y (k1, pc1', lv1, r1.toList ++ rest1) cs1 mem1' Q)))) : h_T P Y k2 pc2 L2 st2 σ2 (d_cs P Y cs2 (d_M P Y (k1, pc1, lv1, st1) cs1 mem1 Q)) := by
  refine d_run_T hi (fun lv2 mem2 hl2 hR2 => ?_)
  obtain ⟨y1, τ1, y2, τ2, g1, g2, g3, g4, g5⟩ := d_P_run kk hc1.loc hR1 hc2.loc hR2
  obtain ⟨z2, υ2, ⟨w2, f1, f2⟩, f3, z1, υ1, ⟨w1, f4, f5⟩, f6, f7⟩ := d_T_run (g5 y1.2 g2) hl2 g4
  exact ⟨z2, υ2, ⟨w2, hc2.ev hR2 g3 f1, f2⟩, f3, z1, υ1, ⟨w1, hc1.ev hR1 g1 f4, f5⟩, f6, f7⟩
end DP
/-- two pictures of one memory agree where the layout has a place -/
theorem d_same_a {Y : h_L} {σ τ : h_S} {mem : List e_C} {q t : Nat} {z : Bool} (h : h_R Y σ mem) (h' : h_R Y τ mem) (hY : Y.1 q = some (.inl (z, t))) {j : Int} (h0 : 0 ≤ j) (h1 : j < t) : σ q j = τ q j := by
  obtain ⟨a, a1, a2, a3, a4⟩ := h.arr hY
  obtain ⟨b, b1, b2, b3, b4⟩ := h'.arr hY
  cases a1.symm.trans b1
  have hlt : j.toNat < a.2.length := by omega
  have hx := List.getElem?_eq_getElem hlt
  have e : ((j.toNat : Nat) : Int) = j := by omega
  have e1 := a4 _ _ hx
  have e2 := b4 _ _ hx
  rw [e] at e1 e2
  exact e1.symm.trans e2
theorem d_same_f {Y : h_L} {σ τ : h_S} {mem : List e_C} {q cn j : Nat} {fs : List (Option Value)} (h : h_R Y σ mem) (h' : h_R Y τ mem) (hY : Y.1 q = some (.inr (cn, fs))) (hj : fs[j]? = some none) : σ q (j : Int) = τ q (j : Int) := by
  obtain ⟨a, a1, a2, a3, a4⟩ := h.obj hY
  obtain ⟨b, b1, b2, b3, b4⟩ := h'.obj hY
  cases a1.symm.trans b1
  obtain ⟨x, x1, x2⟩ := (a4 j).2 hj
  obtain ⟨y, y1, y2⟩ := (b4 j).2 hj
  rw [x1] at y1
  cases y1
  exact x2.symm.trans y2
theorem d_inj_of {Y : h_L} (hall : ∀ q, q < Y.2.1 → ∃ y, Y.1 q = some y) : d_inj Y := by
  intro τ m m' h h'
  apply List.ext_getElem?
  intro q
  by_cases hq : q < Y.2.1
  · obtain ⟨y, hy⟩ := hall q hq
    obtain ⟨c, c1, c2⟩ := h.2.2 q y hy
    obtain ⟨d, d1, d2⟩ := h'.2.2 q y hy
    rw [c1, d1]
    congr 1
    cases y with
    | inl t =>
      cases c with
      | inr o => exact c2.elim
      | inl a =>
        cases d with
        | inr o => exact d2.elim
        | inl b =>
          obtain ⟨a1, a2⟩ := a
          obtain ⟨b1, b2⟩ := b
          obtain ⟨p1, p2, p3⟩ := c2
          obtain ⟨q1, q2, q3⟩ := d2
          dsimp only at p1 p2 p3 q1 q2 q3
          subst p1
          subst q1
          congr 2
          apply List.ext_getElem?
          intro j
          by_cases hj : j < t.2
          · have ea := List.getElem?_eq_getElem (l := a2) (i := j) (by omega)
            have eb := List.getElem?_eq_getElem (l := b2) (i := j) (by omega)
            rw [ea, eb]
            congr 1
            exact h_ieq.mpr ((p3 _ _ ea).trans (q3 _ _ eb).symm)
          · rw [List.getElem?_eq_none (by omega), List.getElem?_eq_none (by omega)]
    | inr t =>
      cases c with
      | inl a => exact c2.elim
      | inr o =>
        cases d with
        | inl b => exact d2.elim
        | inr o' =>
          obtain ⟨a1, a2⟩ := o
          obtain ⟨b1, b2⟩ := o'
          obtain ⟨p1, p2, p3⟩ := c2
          obtain ⟨q1, q2, q3⟩ := d2
          dsimp only at p1 p2 p3 q1 q2 q3
          subst p1
          subst q1
          congr 2
          apply List.ext_getElem?
          intro j
          by_cases hj : j < t.2.length
          · have ht := List.getElem?_eq_getElem hj
            cases hv : t.2[j] with
            | some v =>
              rw [hv] at ht
              rw [(p3 j).1 v ht, (q3 j).1 v ht]
            | none =>
              rw [hv] at ht
              obtain ⟨x, x1, x2⟩ := (p3 j).2 ht
              obtain ⟨y, y1, y2⟩ := (q3 j).2 ht
              rw [x1, y1, h_ieq.mpr (x2.trans y2.symm)]
          · rw [List.getElem?_eq_none (by omega), List.getElem?_eq_none (by omega)]
  · rw [List.getElem?_eq_none (by rw [h.1]; omega), List.getElem?_eq_none (by rw [h'.1]; omega)]
set_option maxRecDepth 1000000 in
theorem g_some : ∀ q, q < 114 → ¬ q = 0 → (g_Yf 0 q).isSome = true := by decide +kernel
theorem g_inj (n : Nat) : d_inj (g_Y n) := d_inj_of (fun q hq => by
  by_cases h0 : q = 0
  · subst h0
    exact ⟨_, rfl⟩
  · have := g_some q hq h0
    rw [← f_Yn (n := n) h0] at this
    exact Option.isSome_iff_exists.mp this)
def k_px : List Nat := [64514, 64515, 64516, 64517, 65538, 65539, 65540, 65541, 67592, 67593, 67594, 69631, 70655, 70658, 72703, 73727, 73730, 75775, 76799, 77823, 78847, 79871, 80895]
def k_pm : List Nat := [100357, 100358, 100359, 100360, 100361, 100365, 100366, 100367, 100368, 100369, 100370, 104447]
def k_lx : List Nat := [64514, 64515, 65538, 65539, 65540, 65541]
def k_lm : List Nat := [100365, 100366, 100367, 100368, 100369, 100370]
def d_tape (s t : h_S) : Prop := (∀ i : Int, 0 ≤ i → i < s 64 1 → s 65 i = t 102 i) ∧ s 64 1 = t 98 11
theorem d_tape.fr {s t s' t' : h_S} (h : d_tape s t) (f1 : h_F (k_in k_px) s' s) (f2 : h_F (k_in k_pm) t' t) : d_tape s' t' := by
  refine ⟨fun i h0 h1 => ?_, ?_⟩
  · rw [f1 64 1 rfl] at h1
    rw [f1 65 i rfl, f2 102 i rfl]
    exact h.1 i h0 h1
  · rw [f1 64 1 rfl, f2 98 11 rfl]
    exact h.2
theorem h_upi {s s' : h_S} {q : Nat} {e v : Int} (u : s' = h_up s q e v) (j : Int) : s' q j = if j = e then v else s q j := by
  subst u
  unfold h_up
  by_cases h : j = e
  · rw [if_pos ⟨rfl, h⟩, if_pos h]
  · rw [if_neg (fun x => h x.2), if_neg h]
theorem h_upo {s s' : h_S} {q p : Nat} {e v : Int} (u : s' = h_up s q e v) (h : Nat.beq p q = false) (j : Int) : s' p j = s p j := by
  subst u
  unfold h_up
  rw [if_neg (fun x => by rw [x.1, Nat.beq_refl] at h; cases h)]
theorem ci_100 : (Int32.ofInt 100).toInt = 100 := by decide
theorem ci_101 : (Int32.ofInt 101).toInt = 101 := by decide
theorem ci_102 : (Int32.ofInt 102).toInt = 102 := by decide
theorem ci_103 : (Int32.ofInt 103).toInt = 103 := by decide
theorem ci_105 : (Int32.ofInt 105).toInt = 105 := by decide
theorem ci_108 : (Int32.ofInt 108).toInt = 108 := by decide
theorem ci_109 : (Int32.ofInt 109).toInt = 109 := by decide
theorem ci_110 : (Int32.ofInt 110).toInt = 110 := by decide
theorem ci_111 : (Int32.ofInt 111).toInt = 111 := by decide
theorem ci_112 : (Int32.ofInt 112).toInt = 112 := by decide
theorem ci_114 : (Int32.ofInt 114).toInt = 114 := by decide
theorem ci_115 : (Int32.ofInt 115).toInt = 115 := by decide
theorem ci_116 : (Int32.ofInt 116).toInt = 116 := by decide
theorem ci_117 : (Int32.ofInt 117).toInt = 117 := by decide
theorem ci_121 : (Int32.ofInt 121).toInt = 121 := by decide
theorem ci_98 : (Int32.ofInt 98).toInt = 98 := by decide
