/-! WHAT WAS SEEN, COUNTIES ONE STEP OFF -/
def g_ag (pl th : Int → Int) (w : Int32) : Nat → Bool
  | 0 => true
  | m + 1 => g_ag pl th w m && decide (g_hb w (pl (m : Int)) = th (m : Int))
section AG
variable {pl th : Int → Int} {w : Int32} {k n b b' : Int}
theorem g_ag_1 (k0 : 0 ≤ k) : g_ag pl th w (k + 1).toNat = (g_ag pl th w k.toNat && decide (g_hb w (pl k) = th k)) := by
  rw [show (k + 1).toNat = k.toNat + 1 by omega]
  show (g_ag pl th w k.toNat && decide (g_hb w (pl ((k.toNat : Nat) : Int)) = th ((k.toNat : Nat) : Int))) = _
  rw [show ((k.toNat : Nat) : Int) = k by omega]
theorem g_ag_s (h : g_ag pl th w k.toNat = true) (k0 : 0 ≤ k) (e : g_hb w (pl k) = th k) : g_ag pl th w (k + 1).toNat = true := by
  rw [g_ag_1 k0, h, decide_eq_true e]
  rfl
theorem g_ag_f' (k0 : 0 ≤ k) (e : ¬ g_hb w (pl k) = th k) : ∀ m : Nat, k < (m : Int) → g_ag pl th w m = false
  | 0, h => by omega
  | m + 1, h => by
    show (g_ag pl th w m && decide (g_hb w (pl (m : Int)) = th (m : Int))) = false
    by_cases c : k < (m : Int)
    · rw [g_ag_f' k0 e m c, Bool.false_and]
    · rw [show (m : Int) = k by omega, decide_eq_false e, Bool.and_false]
theorem g_ag_f (k0 : 0 ≤ k) (kn : k < n) (e : ¬ g_hb w (pl k) = th k) : g_ag pl th w n.toNat = false := g_ag_f' k0 e n.toNat (by omega)
theorem g_ag_i (h : b = if g_ag pl th w k.toNat = true then 1 else 0) (k0 : 0 ≤ k) (hb : (b = 0 ∧ b' = 0) ∨ (¬ b = 0 ∧ g_hb w (pl k) = th k ∧ b' = 1) ∨ (¬ b = 0 ∧ ¬ g_hb w (pl k) = th k ∧ b' = 0)) : b' = if g_ag pl th w (k + 1).toNat = true then 1 else 0 := by
  rw [g_ag_1 k0]
  by_cases c : g_ag pl th w k.toNat = true
  · rw [if_pos c] at h
    rw [c, Bool.true_and]
    rcases hb with x | x | x
    · exfalso
      omega
    · rw [decide_eq_true x.2.1, if_pos rfl]
      exact x.2.2
    · rw [decide_eq_false x.2.1, if_neg (by decide)]
      exact x.2.2
  · rw [if_neg c] at h
    rw [Bool.eq_false_iff.mpr c, Bool.false_and, if_neg (by decide)]
    omega
theorem g_ag_eq {pl' th' : Int → Int} : ∀ m : Nat, (∀ k : Int, 0 ≤ k → k < m → pl k = pl' k ∧ th k = th' k) → g_ag pl th w m = g_ag pl' th' w m
  | 0, _ => rfl
  | m + 1, e => by
    show (g_ag pl th w m && decide (g_hb w (pl (m : Int)) = th (m : Int))) = (g_ag pl' th' w m && decide (g_hb w (pl' (m : Int)) = th' (m : Int)))
    rw [g_ag_eq m (fun k a c => e k a (by omega)), (e (m : Int) (by omega) (by omega)).1, (e (m : Int) (by omega) (by omega)).2]
end AG
/-- rows of bits by tries -/
def g_pb (ok vd : Int → Bool) : Nat → Int32
  | 0 => 0
  | m + 1 => if (vd (m : Int) && ok (m : Int)) = true then g_or (g_pb ok vd m) (m : Int) else g_pb ok vd m
theorem g_pb_1 {ok vd : Int → Bool} {k : Int} (k0 : 0 ≤ k) : g_pb ok vd (k + 1).toNat = if (vd k && ok k) = true then g_or (g_pb ok vd k.toNat) k else g_pb ok vd k.toNat := by
  rw [show (k + 1).toNat = k.toNat + 1 by omega]
  show (if (vd ((k.toNat : Nat) : Int) && ok ((k.toNat : Nat) : Int)) = true then g_or (g_pb ok vd k.toNat) ((k.toNat : Nat) : Int) else g_pb ok vd k.toNat) = _
  rw [show ((k.toNat : Nat) : Int) = k by omega]
theorem g_pb_eq {ok ok' vd : Int → Bool} : ∀ m : Nat, (∀ k : Int, 0 ≤ k → k < m → vd k = true → ok k = ok' k) → g_pb ok vd m = g_pb ok' vd m
  | 0, _ => rfl
  | m + 1, e => by
    show (if (vd (m : Int) && ok (m : Int)) = true then g_or (g_pb ok vd m) (m : Int) else g_pb ok vd m) = (if (vd (m : Int) && ok' (m : Int)) = true then g_or (g_pb ok' vd m) (m : Int) else g_pb ok' vd m)
    rw [g_pb_eq m (fun k a c => e k a (by omega))]
    by_cases z : vd (m : Int) = true
    · rw [e (m : Int) (by omega) (by omega) z]
    · rw [Bool.eq_false_iff.mpr z, Bool.false_and, Bool.false_and]
def g_iv (R : Int → Int32 → Prop) (vd : Int → Bool) (ok : Int32 → Bool) (b : Int) (y : Int32) : Prop := ∃ w : Int → Int32, (∀ k, 0 ≤ k → k < b → vd k = true → R k (w k)) ∧ y = g_pb (fun k => ok (w k)) vd b.toNat
section IV
variable {R R' : Int → Int32 → Prop} {vd : Int → Bool} {ok ok' : Int32 → Bool} {b : Int} {y y' r : Int32}
theorem g_iv_0 : g_iv R vd ok 0 0 := ⟨fun _ => 0, fun k a c => by omega, rfl⟩
theorem g_iv_t (h : g_iv R vd ok b y) (b0 : 0 ≤ b) (hR : ∀ k w, 0 ≤ k → k < b → R k w → R' k w) (hv : vd b = true) (hr : R' b r) (hy : y' = if ok r = true then g_or y b else y) : g_iv R' vd ok (b + 1) y' := by
  obtain ⟨w, h1, h2⟩ := h
  refine ⟨fun k => if k = b then r else w k, fun k a c d => ?_, ?_⟩
  · show R' k (if k = b then r else w k)
    by_cases z : k = b
    · rw [if_pos z, z]
      exact hr
    · rw [if_neg z]
      exact hR k _ a (by omega) (h1 k a (by omega) d)
  · rw [g_pb_1 b0, hv, Bool.true_and]
    have e : g_pb (fun k => ok (if k = b then r else w k)) vd b.toNat = y := by
      rw [h2]
      refine g_pb_eq b.toNat (fun k a c _ => ?_)
      show ok (if k = b then r else w k) = ok (w k)
      rw [if_neg (by omega)]
    rw [e, hy]
    show _ = if ok (if b = b then r else w b) = true then g_or y b else y
    rw [if_pos rfl]
theorem g_iv_y (h : g_iv R vd ok b y) (b0 : 0 ≤ b) (hR : ∀ k w, 0 ≤ k → k < b → R k w → R' k w) (hv : vd b = true) (hr : R' b r) (ho : ok r = true) (hy : y' = g_or y b) : g_iv R' vd ok (b + 1) y' := g_iv_t h b0 hR hv hr (by rw [if_pos ho, hy])
theorem g_iv_n (h : g_iv R vd ok b y) (b0 : 0 ≤ b) (hR : ∀ k w, 0 ≤ k → k < b → R k w → R' k w) (hv : vd b = true) (hr : R' b r) (ho : ok r = false) (hy : y' = y) : g_iv R' vd ok (b + 1) y' := g_iv_t h b0 hR hv hr (by rw [if_neg (by rw [ho]; decide), hy])
theorem g_iv_s (h : g_iv R vd ok b y) (b0 : 0 ≤ b) (hR : ∀ k w, 0 ≤ k → k < b → R k w → R' k w) (hv : vd b = false) (hy : y' = y) : g_iv R' vd ok (b + 1) y' := by
  obtain ⟨w, h1, h2⟩ := h
  refine ⟨w, fun k a c d => ?_, ?_⟩
  · by_cases z : k = b
    · rw [z, hv] at d
      exact Bool.noConfusion d
    · exact hR k _ a (by omega) (h1 k a (by omega) d)
  · rw [g_pb_1 b0, hv, Bool.false_and, if_neg (by decide), hy, h2]
theorem g_iv_e (h : g_iv R vd ok b y) (h' : g_iv R' vd ok' b y') (hb : 0 ≤ b) (e : ∀ k w w', 0 ≤ k → k < b → vd k = true → R k w → R' k w' → w = w') (eo : ∀ w, ok w = ok' w) : y = y' := by
  obtain ⟨w, h1, h2⟩ := h
  obtain ⟨w', h1', h2'⟩ := h'
  rw [h2, h2']
  refine g_pb_eq b.toNat (fun k a c d => ?_)
  show ok (w k) = ok' (w' k)
  rw [e k _ _ a (by omega) d (h1 k a (by omega) d) (h1' k a (by omega) d), eo]
end IV
/-- the trial's county is the county but for a PARENT (p) or a REACH (g) -/
def g_ct3 (p g : Int) (s σ : h_S) : Prop := (s 23 8 = σ 10 8 ∧ s 23 9 = σ 10 9 ∧ s 23 10 = σ 10 10 ∧ s 26 2 = σ 13 2 ∧ s 29 2 = σ 16 2) ∧ (∀ j, 0 ≤ j → j < 6 → s 24 j = σ 11 j) ∧ (∀ j, 0 ≤ j → j < 6 → ¬ j = p → s 25 j = σ 12 j) ∧ (∀ j, 0 ≤ j → j < 3 → s 27 j = σ 14 j ∧ s 28 j = σ 15 j) ∧ (∀ j, 0 ≤ j → j < 3 → s 30 j = σ 17 j ∧ s 31 j = σ 18 j) ∧ (∀ j, 0 ≤ j → j < 3 → ¬ j = g → s 32 j = σ 19 j) ∧ (∀ j, 0 ≤ j → j < 3 → s 33 j = σ 20 j) ∧ (∀ j, 0 ≤ j → j < 8 → s 35 j = σ 22 j)
theorem g_ct3.of {s σ : h_S} {p g : Int} (h : c_eq true s 23 σ 10) : g_ct3 p g s σ := by
  obtain ⟨⟨a1, a2, a3, a4, a5⟩, b1, b2, b3, b4, b5, b6, b7, b8, b9⟩ := h
  exact ⟨⟨a1, a2, a3, a4, a5⟩, b1, fun j x y _ => b2 j x y, fun j x y => ⟨b3 j x y, b4 j x y⟩, fun j x y => ⟨b5 j x y, b6 j x y⟩, fun j x y _ => b7 j x y, (b9 rfl).1, b8⟩
theorem g_ct3.e {s s' σ : h_S} {p g : Int} (h : g_ct3 p g s σ) (e8 : s' 23 8 = s 23 8) (e9 : s' 23 9 = s 23 9) (e10 : s' 23 10 = s 23 10) (e24 : s' 24 = s 24) (e25 : ∀ j, ¬ j = p → s' 25 j = s 25 j) (e26 : s' 26 2 = s 26 2) (e27 : s' 27 = s 27) (e28 : s' 28 = s 28) (e29 : s' 29 2 = s 29 2) (e30 : s' 30 = s 30) (e31 : s' 31 = s 31) (e32 : ∀ j, ¬ j = g → s' 32 j = s 32 j) (e33 : s' 33 = s 33) (e35 : s' 35 = s 35) : g_ct3 p g s' σ := by
  obtain ⟨⟨a1, a2, a3, a4, a5⟩, b1, b2, b3, b4, b5, b6, b7⟩ := h
  unfold g_ct3
  rw [e8, e9, e10, e24, e26, e27, e28, e29, e30, e31, e33, e35]
  exact ⟨⟨a1, a2, a3, a4, a5⟩, b1, fun j x y z => (e25 j z).trans (b2 j x y z), b3, b4, fun j x y z => (e32 j z).trans (b5 j x y z), b6, b7⟩
/-- its runs may begin -/
theorem g_ct3.lk {s σ : h_S} {p g : Int} (h : g_ct3 p g s σ) (hI : h_I σ) (hl : g_lk' (σ 10 8) (σ 10 9) (σ 20)) : g_lk' (s 23 8) (s 23 9) (s 33) := by
  have t9 := tf_10_9 hI
  obtain ⟨⟨a1, a2, -, -, -⟩, -, -, -, -, -, b6, -⟩ := h
  intro j x y
  rw [a1, b6 j x (by omega)]
  exact hl j x (by omega)
theorem g_ct3.pl {s σ : h_S} {p g : Int} (h : g_ct3 p g s σ) (hI : h_I σ) (hl : ∀ i, 0 ≤ i → i < σ 10 10 → 0 ≤ σ 22 i ∧ σ 22 i / 10 < σ 10 8 ∧ σ 22 i % 10 < σ 10 9) : ∀ i, 0 ≤ i → i < s 23 10 → 0 ≤ s 35 i ∧ s 35 i / 10 < s 23 8 ∧ s 35 i % 10 < s 23 9 := by
  have t := tf_10_10 hI
  obtain ⟨⟨a1, a2, a3, -, -⟩, -, -, -, -, -, -, b7⟩ := h
  intro j x y
  rw [a1, a2, b7 j x (by omega)]
  exact hl j x (by omega)
def g_oX (p g : Int) (σ : h_S) (v : Int) (r : Int32) : Prop := ∃ (o : h_S) (D f : Int → Int), g_ct3 p g o σ ∧ (0 ≤ p → o 25 p = v) ∧ (0 ≤ g → o 32 g = v) ∧ g_DX (o 23 8) (o 25) (o 24) (o 26 2) (o 27) (o 28) D ∧ g_FX (o 23 8) (o 30) (o 31) (o 29 2) f ∧ r = (g_pf (fun p l g => g_yX (o 23 8) D f p l (o 32 g)) (Int32.ofInt 0) (o 35) (o 33, 0, 0) (o 23 10).toNat).2.2
/-- the reference's: a page is the county's but for a PARENT or a REACH -/
def g_p3 (p g : Int) (o σ : h_S) : Prop := o 98 1 = σ 98 1 ∧ o 98 2 = σ 98 2 ∧ o 100 = σ 100 ∧ (∀ j, 0 ≤ j → j < 44 → o 99 j = σ 99 j) ∧ (∀ j, 0 ≤ j → j < 44 → ¬ j = 6 + p → ¬ j = 26 + g → o 99 (176 + j) = σ 99 j)
def g_oM (p g : Int) (σ : h_S) (v : Int) (r : Int32) : Prop := ∃ (o τ : h_S), g_p3 p g o σ ∧ (0 ≤ p → o 99 (176 + (6 + p)) = v) ∧ (0 ≤ g → o 99 (176 + (26 + g)) = v) ∧ g_DM (o 98 1) (o 99 194) (fun j => o 99 (176 + j)) (o 100) (τ 105) ∧ g_pmI (fun p l g => g_yM (τ 105) (fun i => o 99 (19 + 2 * i)) (fun i => o 99 (19 + 2 * i + 1)) (o 99 25) p l (o 99 (202 + g))) (Int32.ofInt 0) (fun i => o 99 (35 + i)) (fun g => g_orn (o 99 (205 + g))) (o 99 43) (τ 99) (τ 98 22) (τ 98 23) ∧ r = Int32.ofInt (τ 98 23)
def g_vr (p g v v' : Int) : Prop := (0 ≤ p → (v = -4 ∧ v' = 0) ∨ (0 ≤ v ∧ v < p ∧ v' = v + 1)) ∧ (0 ≤ g → v = v' ∧ 0 ≤ v ∧ v ≤ 9)
theorem c_R.off {s : h_S} {p g v v' : Int} {r u : Int32} (h : c_R true s) (hI : h_I s) (ht : g_ti s) (hp : (0 ≤ p ∧ p < s 10 8 ∧ g = -100) ∨ (p = -100 ∧ 0 ≤ g ∧ g < s 10 9)) (hv : g_vr p g v v') (hX : g_oX p g s v r) (hM : g_oM p g s v' u) : r = u ∧ 0 ≤ r.toInt ∧ r.toInt ≤ 255 := by
  obtain ⟨o, D, f, ⟨⟨a1, a2, a3, a4, a5⟩, b1, b2, b3, b4, b5, b6, b7⟩, vp, vg, hD, hf, hr⟩ := hX
  obtain ⟨q, τ, ⟨m1, m2, m3, m4, m5⟩, wp, wg, hG, hPM, hu⟩ := hM
  have sz := h.sz
  have t8 := tf_10_8 hI
  have t9 := tf_10_9 hI
  have t10 := tf_10_10 hI
  have t13 := tf_13_2 hI
  have t16 := tf_16_2 hI
  have hk : q 99 194 = o 26 2 := by
    have e := m5 18 (by omega) (by omega) (by omega) (by omega)
    rw [a4, sz.2.2.2.1, ← e]
    exact congrArg (q 99) (by omega)
  have hn : q 98 1 = o 23 8 := by rw [m1, a1, sz.1]
  rw [hk, hn] at hG
  have gd : g_ph (o 23 8) 256 D (τ 105) := by
    refine g_deg (by omega) (fun j j0 j1 => ?_) (fun j j0 j1 => ?_) hD hG
    · have y := h.ps (j := j) j0 (by omega)
      have w := ty_11 hI j
      have e0 := m5 j j0 (by omega) (by omega) (by omega)
      show ((o 25 j = -4 ∧ q 99 (176 + (6 + j)) = 0) ∨ (0 ≤ o 25 j ∧ o 25 j < o 23 8 ∧ q 99 (176 + (6 + j)) = o 25 j + 1)) ∧ q 100 (q 99 (176 + j)) = g_tie (o 24 j)
      refine ⟨?_, ?_⟩
      · by_cases z : j = p
        · subst z
          have e1 := vp j0
          have e2 := wp j0
          have e3 := hv.1 j0
          omega
        · have e1 := b2 j j0 (by omega) z
          have e2 := m5 (6 + j) (by omega) (by omega) (by omega) (by omega)
          omega
      · rw [e0, m3, b1 j j0 (by omega), ← y.1]
        exact ht _ w.1 w.2
    · have y := h.mr (j := j) j0 (by omega)
      have e1 := m5 (12 + 2 * j) (by omega) (by omega) (by omega) (by omega)
      have e2 := m5 (12 + 2 * j + 1) (by omega) (by omega) (by omega) (by omega)
      have e3 := b3 j j0 (by omega)
      show o 27 j = q 99 (176 + (12 + 2 * j)) ∧ o 28 j = q 99 (176 + (12 + 2 * j + 1)) ∧ 0 ≤ o 27 j ∧ o 27 j < o 23 8 ∧ 0 ≤ o 28 j ∧ o 28 j < o 23 8
      omega
  have hf' : q 99 25 = o 29 2 := by rw [m4 25 (by omega) (by omega), a5, sz.2.2.2.2]
  have e := g_run_eq (aw := Int32.ofInt 0) (m := q 99 25) (A := fun i => q 99 (19 + 2 * i)) (B := fun i => q 99 (19 + 2 * i + 1)) (R := fun g => q 99 (202 + g)) (r := o 32) (l := o 33) (L0 := fun g => g_orn (q 99 (205 + g))) (L1 := o 33) (q := o 35) (pl := fun i => q 99 (35 + i)) (na := o 23 10) (ng := o 23 9) gd (by omega) hf hf' (fun j x y => by
    have z := h.fe (j := j) x (by omega)
    have e1 := m4 (19 + 2 * j) (by omega) (by omega)
    have e2 := m4 (19 + 2 * j + 1) (by omega) (by omega)
    have e3 := b4 j x (by omega)
    show o 30 j = q 99 (19 + 2 * j) ∧ o 31 j = q 99 (19 + 2 * j + 1)
    omega) (fun j x y => by
    have z := h.rc (j := j) x (by omega)
    have w := ty_19 hI j
    show o 32 j = q 99 (202 + j) ∧ o 32 j ≤ 999
    by_cases c : j = g
    · subst c
      have e1 := vg x
      have e2 := wg x
      have e3 := hv.2 x
      rw [show (176 : Int) + (26 + j) = 202 + j by omega] at e2
      omega
    · have e1 := b5 j x (by omega) c
      have e2 := m5 (26 + j) (by omega) (by omega) (by omega) (by omega)
      rw [show (176 : Int) + (26 + j) = 202 + j by omega] at e2
      omega) (fun j x y => by
    have lw := (h.lw (j := j) x (by omega)).1
    have e1 := b6 j x (by omega)
    have e2 := m5 (29 + j) (by omega) (by omega) (by omega) (by omega)
    rw [show (176 : Int) + (29 + j) = 205 + j by omega] at e2
    refine ⟨?_, by omega⟩
    show o 33 j = g_orn (q 99 (205 + j))
    exact g_orn_of (by omega)) (fun j x y => by
    have z := h.pa (j := j) x (by omega)
    have e1 := b7 j x (by omega)
    have e2 := m4 (35 + j) (by omega) (by omega)
    show o 35 j = q 99 (35 + j) ∧ 0 ≤ o 35 j ∧ o 35 j / 10 < o 23 8 ∧ o 35 j % 10 < o 23 9
    rw [e2, ← z.1, e1]
    exact ⟨rfl, z.2.1, by omega, by omega⟩) (fun _ _ _ => rfl) (o 23 10).toNat (by omega)
  have z8 := g_pf_8 (y := fun p l g => g_yX (o 23 8) D f p l (o 32 g)) (aw := Int32.ofInt 0) (pl := o 35) (L := o 33) (o 23 10).toNat (by omega)
  obtain ⟨-, -, h3⟩ := hPM
  rw [show q 99 43 = o 23 10 by rw [m4 43 (by omega) (by omega), a3, sz.2.2.1]] at h3
  rw [← hr] at z8
  refine ⟨?_, z8⟩
  rw [hr, hu, h3]
  exact e.2.2
set_option maxHeartbeats 100000000 in
theorem n_agX_l (ns : Nat) (σ : h_S) (hI : h_I σ) (x0 : Int32) (a0 : Int) (hx0 : x0.toInt = a0) {Q : Option Value → h_S → Prop} (kk : ∀ (r : Int32) (b : Int) (hb : r.toInt = b), (0 ≤ b ∧ b ≤ 1) → (b = if g_ag (σ 91) (σ 92) x0 (σ 90 2).toNat = true then 1 else 0) → Q (some (.int r)) σ) : ∀ n : Nat, (∀ (y2 : Int32) (b2 : Int), y2.toInt = b2 → (0 ≤ b2 ∧ b2 ≤ 6) → (g_ag (σ 91) (σ 92) x0 b2.toNat = true) → (b2 ≤ σ 90 2) → (6 + 1 - b2) * 1000000 + 1000000000 ≤ (n : Int) → h_T g_P (g_Y ns) 80 2 [(0, .ref 90), (1, .int x0), (2, .int y2)] [] σ Q) := by
  intro n
  induction n with
  | zero => exact by intro  y2 b2 hy2 ry2 ex0 ex1 hm; have gg0 := tf_90_2 hI; exfalso; omega
  | succ n ih =>
    intro  y2 b2 hy2 ry2 ex0 ex1 hm; have gg0 := tf_90_2 hI
    refine h_iload_n (pc' := 3) rfl rfl rfl ?_
    refine h_aload_n (pc' := 4) rfl rfl rfl ?_
    refine h_getI (pc' := 7) (v := σ 90 2) rfl rfl rfl rfl rfl rfl (fun z1 hz1 => ?_)
    have tz1 := tf_90_2 hI
    refine h_cge (tg := 37) (pc' := 10) rfl rfl rfl hy2 hz1 (fun c2 => ?_) (fun c2 => ?_)
    · refine h_iconst (pc' := 38) (x := (Int32.ofInt 1)) rfl rfl rfl ?_
      exact h_zret rfl rfl ci_1 (by omega) (kk _ _ ci_1 (by omega) (by rw [show σ 90 2 = b2 by omega]; exact g_if_1 ex0 rfl))
    · refine h_iload_n (pc' := 11) rfl rfl rfl ?_
      refine h_aload_n (pc' := 12) rfl rfl rfl ?_
      refine h_getR (pc' := 15) rfl rfl rfl rfl rfl ?_
      refine h_iload_n (pc' := 16) rfl rfl rfl ?_
      refine h_iald (pc' := 17) (v := σ 91 b2) rfl rfl rfl hy2 (by omega) (by omega) rfl (fun z3 hz3 => ?_)
      have tz3 := ty_91 hI b2
      refine h_calls (pc' := 20) (M := [(0, .int x0), (1, .int z3)]) rfl rfl rfl rfl rfl rfl ?_
      refine h_iload_n (pc' := 1) rfl rfl rfl ?_
      refine h_iload_n (pc' := 2) rfl rfl rfl ?_
      refine h_ishr (pc' := 3) rfl rfl (fun z4 hz4 => ?_)
      refine h_iconst (pc' := 4) (x := (Int32.ofInt 1)) rfl rfl rfl ?_
      refine h_iand (pc' := 5) rfl rfl (fun z5 hz5 uz5 vz5 => ?_)
      clear uz5
      rw [ci_1] at vz5
      have yz5 := vz5 (by omega)
      refine h_zeq (tg := 12) (pc' := 8) rfl rfl rfl rfl (fun c6 => ?_) (fun c6 => ?_)
      · refine h_iconst (pc' := 13) (x := (Int32.ofInt 0)) rfl rfl rfl ?_
        refine h_zret rfl rfl ci_0 (by omega) (h_Kv ?_)
        refine h_aload_n (pc' := 21) rfl rfl rfl ?_
        refine h_getR (pc' := 24) rfl rfl rfl rfl rfl ?_
        refine h_iload_n (pc' := 25) rfl rfl rfl ?_
        refine h_bald (pc' := 26) (v := σ 92 b2) rfl rfl rfl hy2 (by omega) (by omega) rfl (fun z7 hz7 => ?_)
        have tz7 := ty_92 hI b2
        refine h_ceq (tg := 31) (pc' := 29) rfl rfl rfl ci_0 hz7 (fun c8 => ?_) (fun c8 => ?_)
        · refine h_iinc (pc' := 34) (M := fun z9 => [(2, .int z9), (0, .ref 90), (1, .int x0)]) rfl rfl rfl rfl hy2 ci_1 rfl (by omega) (by omega) (fun _ => rfl) (fun z9 hz9 => ?_)
          refine h_goto (pc' := 2) rfl rfl ?_
          exact h_wk [(0, .ref 90), (1, .int x0), (2, .int z9)] ⟨rfl, rfl, rfl, trivial⟩ (ih z9 _ hz9 (by omega) (by have gz := g_hb_of hz5 hz4 hz3; exact g_ag_s ex0 (by omega) (by omega)) (by omega) (by omega))
        · refine h_iconst (pc' := 30) (x := (Int32.ofInt 0)) rfl rfl rfl ?_
          exact h_zret rfl rfl ci_0 (by omega) (kk _ _ ci_0 (by omega) (by have gz := g_hb_of hz5 hz4 hz3; exact g_if_0 (g_ag_f (k := b2) (by omega) (by omega) (by omega)) rfl))
      · refine h_iconst (pc' := 9) (x := (Int32.ofInt 1)) rfl rfl rfl ?_
        refine h_goto (pc' := 13) rfl rfl ?_
        refine h_zret rfl rfl ci_1 (by omega) (h_Kv ?_)
        refine h_aload_n (pc' := 21) rfl rfl rfl ?_
        refine h_getR (pc' := 24) rfl rfl rfl rfl rfl ?_
        refine h_iload_n (pc' := 25) rfl rfl rfl ?_
        refine h_bald (pc' := 26) (v := σ 92 b2) rfl rfl rfl hy2 (by omega) (by omega) rfl (fun z10 hz10 => ?_)
        have tz10 := ty_92 hI b2
        refine h_ceq (tg := 31) (pc' := 29) rfl rfl rfl ci_1 hz10 (fun c11 => ?_) (fun c11 => ?_)
        · refine h_iinc (pc' := 34) (M := fun z12 => [(2, .int z12), (0, .ref 90), (1, .int x0)]) rfl rfl rfl rfl hy2 ci_1 rfl (by omega) (by omega) (fun _ => rfl) (fun z12 hz12 => ?_)
          refine h_goto (pc' := 2) rfl rfl ?_
          exact h_wk [(0, .ref 90), (1, .int x0), (2, .int z12)] ⟨rfl, rfl, rfl, trivial⟩ (ih z12 _ hz12 (by omega) (by have gz := g_hb_of hz5 hz4 hz3; exact g_ag_s ex0 (by omega) (by omega)) (by omega) (by omega))
        · refine h_iconst (pc' := 30) (x := (Int32.ofInt 0)) rfl rfl rfl ?_
          exact h_zret rfl rfl ci_0 (by omega) (kk _ _ ci_0 (by omega) (by have gz := g_hb_of hz5 hz4 hz3; exact g_if_0 (g_ag_f (k := b2) (by omega) (by omega) (by omega)) rfl))
set_option maxHeartbeats 100000000 in
theorem n_agX {ns : Nat} (σ : h_S) (hI : h_I σ) (x0 : Int32) (a0 : Int) (hx0 : x0.toInt = a0) {Q : Option Value → h_S → Prop} (kk : ∀ (r : Int32) (b : Int) (hb : r.toInt = b), (0 ≤ b ∧ b ≤ 1) → (b = if g_ag (σ 91) (σ 92) x0 (σ 90 2).toNat = true then 1 else 0) → Q (some (.int r)) σ) : h_T g_P (g_Y ns) 80 0 [(0, .ref 90), (1, .int x0)] [] σ Q := by
  have gg0 := tf_90_2 hI
  have ge0 := tf_90_2 hI
  refine h_iconst (pc' := 1) (x := (Int32.ofInt 0)) rfl rfl rfl ?_
  refine h_istore_n (pc' := 2) (M := [(2, .int (Int32.ofInt 0)), (0, .ref 90), (1, .int x0)]) rfl rfl rfl rfl ?_
  exact h_wk [(0, .ref 90), (1, .int x0), (2, .int (Int32.ofInt 0))] ⟨rfl, rfl, rfl, trivial⟩ ((n_agX_l ns σ hI x0 a0 hx0 kk 1000000000000) (Int32.ofInt 0) _ ci_0 (by omega) rfl (by omega) (by omega))
set_option maxHeartbeats 100000000 in
theorem n_agM_l (ns : Nat) (σ : h_S) (hI : h_I σ) {Q : Option Value → h_S → Prop} (kk : ∀ (r : Int32) (b : Int) (hb : r.toInt = b), (0 ≤ b ∧ b ≤ 1) → (b = if g_ag (fun k => σ 108 (2 * k)) (fun k => σ 108 (2 * k + 1)) (Int32.ofInt (σ 98 23)) (σ 98 29).toNat = true then 1 else 0) → Q (some (.int r)) σ) : ∀ n : Nat, (∀ (y1 : Int32) (b1 : Int), y1.toInt = b1 → (0 ≤ b1 ∧ b1 ≤ 1) → ∀ (y2 : Int32) (b2 : Int), y2.toInt = b2 → (0 ≤ b2 ∧ b2 ≤ 6) → (b1 = if g_ag (fun k => σ 108 (2 * k)) (fun k => σ 108 (2 * k + 1)) (Int32.ofInt (σ 98 23)) b2.toNat = true then 1 else 0) → (b2 ≤ σ 98 29) → (6 + 1 - b2) * 1000000 + 1000000000 ≤ (n : Int) → h_T g_P (g_Y ns) 211 4 [(0, .ref 98), (1, .int y1), (2, .int y2)] [] σ Q) := by
  intro n
  induction n with
  | zero => exact by intro  y1 b1 hy1 ry1 y2 b2 hy2 ry2 ex0 ex1 hm; have gg0 := tf_98_29 hI; exfalso; omega
  | succ n ih =>
    intro  y1 b1 hy1 ry1 y2 b2 hy2 ry2 ex0 ex1 hm; have gg0 := tf_98_29 hI
    refine h_iload_n (pc' := 5) rfl rfl rfl ?_
    refine h_aload_n (pc' := 6) rfl rfl rfl ?_
    refine h_getI (pc' := 9) (v := σ 98 29) rfl rfl rfl rfl rfl rfl (fun z1 hz1 => ?_)
    have tz1 := tf_98_29 hI
    refine h_cge (tg := 56) (pc' := 12) rfl rfl rfl hy2 hz1 (fun c2 => ?_) (fun c2 => ?_)
    · refine h_iload_n (pc' := 57) rfl rfl rfl ?_
      exact h_zret rfl rfl hy1 (by omega) (kk _ _ hy1 (by omega) (by rw [show σ 98 29 = b2 by omega]; exact ex0))
    · refine h_iload_n (pc' := 13) rfl rfl rfl ?_
      refine h_zeq (tg := 48) (pc' := 16) rfl rfl rfl hy1 (fun c3 => ?_) (fun c3 => ?_)
      · refine h_iconst (pc' := 49) (x := (Int32.ofInt 0)) rfl rfl rfl ?_
        refine h_istore_n (pc' := 50) (M := [(1, .int (Int32.ofInt 0)), (0, .ref 98), (2, .int y2)]) rfl rfl rfl rfl ?_
        refine h_iinc (pc' := 53) (M := fun z4 => [(2, .int z4), (1, .int (Int32.ofInt 0)), (0, .ref 98)]) rfl rfl rfl rfl hy2 ci_1 rfl (by omega) (by omega) (fun _ => rfl) (fun z4 hz4 => ?_)
        refine h_goto (pc' := 4) rfl rfl ?_
        exact h_wk [(0, .ref 98), (1, .int (Int32.ofInt 0)), (2, .int z4)] ⟨rfl, rfl, rfl, trivial⟩ (ih (Int32.ofInt 0) _ ci_0 (by omega) z4 _ hz4 (by omega) (g_ag_i ex0 (by omega) (Or.inl ⟨by omega, rfl⟩)) (by omega) (by omega))
      · refine h_aload_n (pc' := 17) rfl rfl rfl ?_
        refine h_getI (pc' := 20) (v := σ 98 23) rfl rfl rfl rfl rfl rfl (fun z5 hz5 => ?_)
        have tz5 := tf_98_23 hI
        refine h_aload_n (pc' := 21) rfl rfl rfl ?_
        refine h_getR (pc' := 24) rfl rfl rfl rfl rfl ?_
        refine h_iconst (pc' := 25) (x := (Int32.ofInt 2)) rfl rfl rfl ?_
        refine h_iload_n (pc' := 26) rfl rfl rfl ?_
        refine h_imul (pc' := 27) rfl rfl ci_2 hy2 rfl (by omega) (by omega) (fun z6 hz6 => ?_)
        refine h_iald (pc' := 28) (v := σ 108 (2 * b2)) rfl rfl rfl hz6 (by omega) (by omega) rfl (fun z7 hz7 => ?_)
        have tz7 := ty_108 hI (2 * b2)
        refine h_ishr (pc' := 29) rfl rfl (fun z8 hz8 => ?_)
        refine h_iconst (pc' := 30) (x := (Int32.ofInt 1)) rfl rfl rfl ?_
        refine h_iand (pc' := 31) rfl rfl (fun z9 hz9 uz9 vz9 => ?_)
        clear uz9
        rw [ci_1] at vz9
        have yz9 := vz9 (by omega)
        refine h_aload_n (pc' := 32) rfl rfl rfl ?_
        refine h_getR (pc' := 35) rfl rfl rfl rfl rfl ?_
        refine h_iconst (pc' := 36) (x := (Int32.ofInt 2)) rfl rfl rfl ?_
        refine h_iload_n (pc' := 37) rfl rfl rfl ?_
        refine h_imul (pc' := 38) rfl rfl ci_2 hy2 rfl (by omega) (by omega) (fun z10 hz10 => ?_)
        refine h_iconst (pc' := 39) (x := (Int32.ofInt 1)) rfl rfl rfl ?_
        refine h_iadd (pc' := 40) rfl rfl hz10 ci_1 rfl (by omega) (by omega) (fun z11 hz11 => ?_)
        refine h_iald (pc' := 41) (v := σ 108 ((2 * b2) + 1)) rfl rfl rfl hz11 (by omega) (by omega) rfl (fun z12 hz12 => ?_)
        have tz12 := ty_108 hI ((2 * b2) + 1)
        refine h_cne (tg := 48) (pc' := 44) rfl rfl rfl rfl hz12 (fun c13 => ?_) (fun c13 => ?_)
        · refine h_iconst (pc' := 49) (x := (Int32.ofInt 0)) rfl rfl rfl ?_
          refine h_istore_n (pc' := 50) (M := [(1, .int (Int32.ofInt 0)), (0, .ref 98), (2, .int y2)]) rfl rfl rfl rfl ?_
          refine h_iinc (pc' := 53) (M := fun z14 => [(2, .int z14), (1, .int (Int32.ofInt 0)), (0, .ref 98)]) rfl rfl rfl rfl hy2 ci_1 rfl (by omega) (by omega) (fun _ => rfl) (fun z14 hz14 => ?_)
          refine h_goto (pc' := 4) rfl rfl ?_
          exact h_wk [(0, .ref 98), (1, .int (Int32.ofInt 0)), (2, .int z14)] ⟨rfl, rfl, rfl, trivial⟩ (ih (Int32.ofInt 0) _ ci_0 (by omega) z14 _ hz14 (by omega) (by have gz := g_hb_oi hz9 hz8 hz7 hz5; exact g_ag_i ex0 (by omega) (by omega)) (by omega) (by omega))
        · refine h_iconst (pc' := 45) (x := (Int32.ofInt 1)) rfl rfl rfl ?_
          refine h_goto (pc' := 49) rfl rfl ?_
          refine h_istore_n (pc' := 50) (M := [(1, .int (Int32.ofInt 1)), (0, .ref 98), (2, .int y2)]) rfl rfl rfl rfl ?_
          refine h_iinc (pc' := 53) (M := fun z15 => [(2, .int z15), (1, .int (Int32.ofInt 1)), (0, .ref 98)]) rfl rfl rfl rfl hy2 ci_1 rfl (by omega) (by omega) (fun _ => rfl) (fun z15 hz15 => ?_)
          refine h_goto (pc' := 4) rfl rfl ?_
          exact h_wk [(0, .ref 98), (1, .int (Int32.ofInt 1)), (2, .int z15)] ⟨rfl, rfl, rfl, trivial⟩ (ih (Int32.ofInt 1) _ ci_1 (by omega) z15 _ hz15 (by omega) (by have gz := g_hb_oi hz9 hz8 hz7 hz5; exact g_ag_i ex0 (by omega) (by omega)) (by omega) (by omega))
set_option maxHeartbeats 100000000 in
theorem n_agM {ns : Nat} (σ : h_S) (hI : h_I σ) {Q : Option Value → h_S → Prop} (kk : ∀ (r : Int32) (b : Int) (hb : r.toInt = b), (0 ≤ b ∧ b ≤ 1) → (b = if g_ag (fun k => σ 108 (2 * k)) (fun k => σ 108 (2 * k + 1)) (Int32.ofInt (σ 98 23)) (σ 98 29).toNat = true then 1 else 0) → Q (some (.int r)) σ) : h_T g_P (g_Y ns) 211 0 [(0, .ref 98)] [] σ Q := by
  have gg0 := tf_98_29 hI
  have ge0 := tf_98_29 hI
  refine h_iconst (pc' := 1) (x := (Int32.ofInt 1)) rfl rfl rfl ?_
  refine h_istore_n (pc' := 2) (M := [(1, .int (Int32.ofInt 1)), (0, .ref 98)]) rfl rfl rfl rfl ?_
  refine h_iconst (pc' := 3) (x := (Int32.ofInt 0)) rfl rfl rfl ?_
  refine h_istore_n (pc' := 4) (M := [(2, .int (Int32.ofInt 0)), (1, .int (Int32.ofInt 1)), (0, .ref 98)]) rfl rfl rfl rfl ?_
  exact h_wk [(0, .ref 98), (1, .int (Int32.ofInt 1)), (2, .int (Int32.ofInt 0))] ⟨rfl, rfl, rfl, trivial⟩ ((n_agM_l ns σ hI  kk 1000000000000) (Int32.ofInt 1) _ ci_1 (by omega) (Int32.ofInt 0) _ ci_0 (by omega) rfl (by omega) (by omega))
def kf_n_tryX : List Nat := [23560, 23561, 23562, 25599, 26623, 26626, 28671, 29695, 29698, 31743, 32767, 33791, 34815, 35839, 36863, 80898, 82943, 83967, 83970, 86015, 87039, 100351]
set_option maxHeartbeats 100000000 in
set_option maxHeartbeats 100000000 in
theorem n_tryX_l (ns : Nat) (σ : h_S) (hI : h_I σ) (x0 : Int32) (a0 : Int) (hx0 : x0.toInt = a0) (ra0 : 0 ≤ a0 ∧ a0 ≤ 5) (pr0 : g_lk' (σ 10 8) (σ 10 9) (σ 20)) (pr1 : ∀ i, 0 ≤ i → i < σ 10 10 → 0 ≤ σ 22 i ∧ σ 22 i / 10 < σ 10 8 ∧ σ 22 i % 10 < σ 10 9) {Q : Option Value → h_S → Prop} (kk : ∀ (r : Int32) (b : Int) (hb : r.toInt = b) (τ : h_S), h_I τ → h_F (k_in kf_n_tryX) τ σ → (g_iv (fun k w => g_oX a0 (-100) σ (if k = 6 then -4 else k) w ∧ τ 97 k = w.toInt) (fun k => decide (k < a0 ∨ k = 6)) (fun w => g_ag (σ 91) (σ 92) w (σ 90 2).toNat) 7 r) → (r.toInt = b) → Q (some (.int r)) τ) : ∀ n : Nat, (∀ (s0 : h_S), h_I s0 → h_F (k_in kf_n_tryX) s0 σ → ∀ (y2 : Int32) (b2 : Int), y2.toInt = b2 → ∀ (y3 : Int32) (b3 : Int), y3.toInt = b3 → (0 ≤ b3 ∧ b3 ≤ 7) → (g_ct3 a0 (-100) s0 σ) → (g_iv (fun k w => g_oX a0 (-100) σ (if k = 6 then -4 else k) w ∧ s0 97 k = w.toInt) (fun k => decide (k < a0 ∨ k = 6)) (fun w => g_ag (σ 91) (σ 92) w (σ 90 2).toNat) b3 y2) → (7 + 1 - b3) * 1000000 + 1000000000 ≤ (n : Int) → h_T g_P (g_Y ns) 135 15 [(0, .ref 9), (1, .int x0), (2, .int y2), (3, .int y3)] [] s0 Q) := by
  intro n
  induction n with
  | zero => exact by intro s0 I0 F0_ y2 b2 hy2 y3 b3 hy3 ry3 ex0 ex1 hm; exfalso; omega
  | succ n ih =>
    intro s0 I0 F0_ y2 b2 hy2 y3 b3 hy3 ry3 ex0 ex1 hm
    refine h_iload_n (pc' := 16) rfl rfl rfl ?_
    refine h_bipush (pc' := 18) (x := (Int32.ofInt 6)) rfl rfl cb_6 ?_
    refine h_cgt (tg := 107) (pc' := 21) rfl rfl rfl hy3 ci_6 (fun c1 => ?_) (fun c1 => ?_)
    · refine h_iload_n (pc' := 108) rfl rfl rfl ?_
      exact h_iret rfl rfl (kk _ _ hy2 _ I0 F0_ (by rw [show b3 = 7 by omega] at ex1; exact ex1) hy2)
    · refine h_iload_n (pc' := 22) rfl rfl rfl ?_
      refine h_iload_n (pc' := 23) rfl rfl rfl ?_
      refine h_clt (tg := 32) (pc' := 26) rfl rfl rfl hy3 hx0 (fun c2 => ?_) (fun c2 => ?_)
      · refine h_aload_n (pc' := 33) rfl rfl rfl ?_
        refine h_getR (pc' := 36) rfl rfl rfl rfl rfl ?_
        refine h_getR (pc' := 39) rfl rfl rfl rfl rfl ?_
        refine h_iload_n (pc' := 40) rfl rfl rfl ?_
        refine h_iload_n (pc' := 41) rfl rfl rfl ?_
        refine h_bipush (pc' := 43) (x := (Int32.ofInt 6)) rfl rfl cb_6 ?_
        refine h_cne (tg := 51) (pc' := 46) rfl rfl rfl hy3 ci_6 (fun c3 => ?_) (fun c3 => absurd c3 (by omega))
        refine h_iload_n (pc' := 52) rfl rfl rfl ?_
        refine h_iast (pc' := 53) rfl rfl rfl rfl hx0 (by omega) (by omega) hy3 (h_fgt (E := fun s => s 98 13 = s0 98 13 ∧ s = h_up s0 25 a0 b3) _ (in_25 I0 (by omega)) (F0_.up rfl) ⟨rfl, rfl⟩ (fun s4 Is4 Fs4 (es4 : s4 98 13 = s0 98 13 ∧ s4 = h_up s0 25 a0 b3) => ?_))
        have us4 := es4.2
        refine h_aload_n (pc' := 54) rfl rfl rfl ?_
        refine h_aload_n (pc' := 55) rfl rfl rfl ?_
        refine h_getR (pc' := 58) rfl rfl rfl rfl rfl ?_
        refine h_call (sp := false) (pc' := 61) (M := [(0, .ref 9), (1, .ref 23)]) rfl rfl rfl rfl rfl rfl rfl rfl ?_
        refine h_aload_n (pc' := 1) rfl rfl rfl ?_
        refine h_getR (pc' := 4) rfl rfl rfl rfl rfl ?_
        refine h_aload_n (pc' := 5) rfl rfl rfl ?_
        refine h_call (sp := false) (pc' := 8) (M := [(0, .ref 79), (1, .ref 23)]) rfl rfl rfl rfl rfl rfl rfl rfl ?_
        refine n_measure_23 _ Is4  (fun s6 Is6 Gs6 ps6_0 ps6_1 ps6_2 => h_Kn ?_)
        have Fs6 := (Gs6.mono (B := kf_n_tryX) rfl).tr Fs4
        have es6_0 : s6 98 13 = s0 98 13 := (Gs6 98 13 rfl).trans es4.1
        refine h_aload_n (pc' := 9) rfl rfl rfl ?_
        refine h_getR (pc' := 12) rfl rfl rfl rfl rfl ?_
        refine h_aload_n (pc' := 13) rfl rfl rfl ?_
        refine h_aload_n (pc' := 14) rfl rfl rfl ?_
        refine h_getR (pc' := 17) rfl rfl rfl rfl rfl ?_
        refine h_call (sp := false) (pc' := 20) (M := [(0, .ref 82), (1, .ref 23), (2, .ref 79)]) rfl rfl rfl rfl rfl rfl rfl rfl ?_
        refine n_open_23 _ Is6  (fun s8 Is8 Gs8 ps8_0 => h_Kn ?_)
        have Fs8 := (Gs8.mono (B := kf_n_tryX) rfl).tr Fs6
        have es8_0 : s8 98 13 = s0 98 13 := (Gs8 98 13 rfl).trans es6_0
        refine h_vret rfl rfl (h_Kn ?_)
        refine h_aload_n (pc' := 62) rfl rfl rfl ?_
        refine h_getR (pc' := 65) rfl rfl rfl rfl rfl ?_
        refine h_iload_n (pc' := 66) rfl rfl rfl ?_
        refine h_aload_n (pc' := 67) rfl rfl rfl ?_
        refine h_getR (pc' := 70) rfl rfl rfl rfl rfl ?_
        refine h_aload_n (pc' := 71) rfl rfl rfl ?_
        refine h_getR (pc' := 74) rfl rfl rfl rfl rfl ?_
        refine h_iconst (pc' := 75) (x := (Int32.ofInt 0)) rfl rfl rfl ?_
        refine h_call (sp := false) (pc' := 78) (M := [(0, .ref 82), (1, .ref 23), (2, .int (Int32.ofInt 0))]) rfl rfl rfl rfl rfl rfl rfl rfl ?_
        refine n_run_23 _ Is8 (Int32.ofInt 0) _ ci_0 (g_op_t ps8_0 (ps6_1.trans ((Gs8 23 8 rfl).trans (Gs6 23 8 rfl)).symm) (funext (fun j => Gs8 80 j rfl)).symm (funext (fun j => Gs8 81 j rfl)).symm (funext (fun j => Gs8 32 j rfl)).symm (Gs8 23 9 rfl).symm rfl) (g_ct3.lk (g_ct3.e ex0 ((Gs8 23 8 rfl).trans ((Gs6 23 8 rfl).trans (h_upo us4 rfl 8))) ((Gs8 23 9 rfl).trans ((Gs6 23 9 rfl).trans (h_upo us4 rfl 9))) ((Gs8 23 10 rfl).trans ((Gs6 23 10 rfl).trans (h_upo us4 rfl 10))) ((funext (fun j => Gs8 24 j rfl)).trans ((funext (fun j => Gs6 24 j rfl)).trans (h_upg us4 rfl))) (fun j hj => (congrFun ((funext (fun j => Gs8 25 j rfl)).trans (funext (fun j => Gs6 25 j rfl))) j).trans (h_upd us4 hj)) ((Gs8 26 2 rfl).trans ((Gs6 26 2 rfl).trans (h_upo us4 rfl 2))) ((funext (fun j => Gs8 27 j rfl)).trans ((funext (fun j => Gs6 27 j rfl)).trans (h_upg us4 rfl))) ((funext (fun j => Gs8 28 j rfl)).trans ((funext (fun j => Gs6 28 j rfl)).trans (h_upg us4 rfl))) ((Gs8 29 2 rfl).trans ((Gs6 29 2 rfl).trans (h_upo us4 rfl 2))) ((funext (fun j => Gs8 30 j rfl)).trans ((funext (fun j => Gs6 30 j rfl)).trans (h_upg us4 rfl))) ((funext (fun j => Gs8 31 j rfl)).trans ((funext (fun j => Gs6 31 j rfl)).trans (h_upg us4 rfl))) (fun j _ => congrFun ((funext (fun j => Gs8 32 j rfl)).trans ((funext (fun j => Gs6 32 j rfl)).trans (h_upg us4 rfl))) j) ((funext (fun j => Gs8 33 j rfl)).trans ((funext (fun j => Gs6 33 j rfl)).trans (h_upg us4 rfl))) ((funext (fun j => Gs8 35 j rfl)).trans ((funext (fun j => Gs6 35 j rfl)).trans (h_upg us4 rfl)))) hI pr0) (g_ct3.pl (g_ct3.e ex0 ((Gs8 23 8 rfl).trans ((Gs6 23 8 rfl).trans (h_upo us4 rfl 8))) ((Gs8 23 9 rfl).trans ((Gs6 23 9 rfl).trans (h_upo us4 rfl 9))) ((Gs8 23 10 rfl).trans ((Gs6 23 10 rfl).trans (h_upo us4 rfl 10))) ((funext (fun j => Gs8 24 j rfl)).trans ((funext (fun j => Gs6 24 j rfl)).trans (h_upg us4 rfl))) (fun j hj => (congrFun ((funext (fun j => Gs8 25 j rfl)).trans (funext (fun j => Gs6 25 j rfl))) j).trans (h_upd us4 hj)) ((Gs8 26 2 rfl).trans ((Gs6 26 2 rfl).trans (h_upo us4 rfl 2))) ((funext (fun j => Gs8 27 j rfl)).trans ((funext (fun j => Gs6 27 j rfl)).trans (h_upg us4 rfl))) ((funext (fun j => Gs8 28 j rfl)).trans ((funext (fun j => Gs6 28 j rfl)).trans (h_upg us4 rfl))) ((Gs8 29 2 rfl).trans ((Gs6 29 2 rfl).trans (h_upo us4 rfl 2))) ((funext (fun j => Gs8 30 j rfl)).trans ((funext (fun j => Gs6 30 j rfl)).trans (h_upg us4 rfl))) ((funext (fun j => Gs8 31 j rfl)).trans ((funext (fun j => Gs6 31 j rfl)).trans (h_upg us4 rfl))) (fun j _ => congrFun ((funext (fun j => Gs8 32 j rfl)).trans ((funext (fun j => Gs6 32 j rfl)).trans (h_upg us4 rfl))) j) ((funext (fun j => Gs8 33 j rfl)).trans ((funext (fun j => Gs6 33 j rfl)).trans (h_upg us4 rfl))) ((funext (fun j => Gs8 35 j rfl)).trans ((funext (fun j => Gs6 35 j rfl)).trans (h_upg us4 rfl)))) hI pr1) (fun r9 br9 hr9 s10 Is10 Gs10 ps10_0 => h_Kv ?_)
        have Fs10 := (Gs10.mono (B := kf_n_tryX) rfl).tr Fs8
        have es10_0 : s10 98 13 = s0 98 13 := (Gs10 98 13 rfl).trans es8_0
        refine h_iast (pc' := 79) rfl rfl rfl rfl hy3 (by omega) (by omega) hr9 (h_fgt (E := fun s => s 98 13 = s0 98 13 ∧ s = h_up s10 97 b3 br9) _ (in_97 Is10 (h_rgv hr9)) (Fs10.up rfl) ⟨es10_0, rfl⟩ (fun s11 Is11 Fs11 (es11 : s11 98 13 = s0 98 13 ∧ s11 = h_up s10 97 b3 br9) => ?_))
        have us11 := es11.2
        refine h_aload_n (pc' := 80) rfl rfl rfl ?_
        refine h_getR (pc' := 83) rfl rfl rfl rfl rfl ?_
        refine h_aload_n (pc' := 84) rfl rfl rfl ?_
        refine h_getR (pc' := 87) rfl rfl rfl rfl rfl ?_
        refine h_iload_n (pc' := 88) rfl rfl rfl ?_
        refine h_iald (pc' := 89) (v := s11 97 b3) rfl rfl rfl hy3 (by omega) (by omega) rfl (fun z12 hz12 => ?_)
        have tz12 := ty_97 Is11 b3
        refine h_call (sp := false) (pc' := 92) (M := [(0, .ref 90), (1, .int z12)]) rfl rfl rfl rfl rfl rfl rfl rfl ?_
        refine n_agX _ Is11 z12 _ hz12 (fun r13 br13 hr13 tr13 ps14_0 => h_Kv ?_)
        refine h_zeq (tg := 101) (pc' := 95) rfl rfl rfl hr13 (fun c15 => ?_) (fun c15 => ?_)
        · refine h_iinc (pc' := 104) (M := fun z16 => [(3, .int z16), (0, .ref 9), (1, .int x0), (2, .int y2)]) rfl rfl rfl rfl hy3 ci_1 rfl (by omega) (by omega) (fun _ => rfl) (fun z16 hz16 => ?_)
          refine h_goto (pc' := 15) rfl rfl ?_
          exact h_wk [(0, .ref 9), (1, .int x0), (2, .int y2), (3, .int z16)] ⟨rfl, rfl, rfl, rfl, trivial⟩ (ih _ Is11 Fs11 y2 _ hy2 z16 _ hz16 (by omega) (g_ct3.e ex0 ((h_upo us11 rfl 8).trans ((Gs10 23 8 rfl).trans ((Gs8 23 8 rfl).trans ((Gs6 23 8 rfl).trans (h_upo us4 rfl 8))))) ((h_upo us11 rfl 9).trans ((Gs10 23 9 rfl).trans ((Gs8 23 9 rfl).trans ((Gs6 23 9 rfl).trans (h_upo us4 rfl 9))))) ((h_upo us11 rfl 10).trans ((Gs10 23 10 rfl).trans ((Gs8 23 10 rfl).trans ((Gs6 23 10 rfl).trans (h_upo us4 rfl 10))))) ((h_upg us11 rfl).trans ((funext (fun j => Gs10 24 j rfl)).trans ((funext (fun j => Gs8 24 j rfl)).trans ((funext (fun j => Gs6 24 j rfl)).trans (h_upg us4 rfl))))) (fun j hj => (congrFun ((h_upg us11 rfl).trans ((funext (fun j => Gs10 25 j rfl)).trans ((funext (fun j => Gs8 25 j rfl)).trans (funext (fun j => Gs6 25 j rfl))))) j).trans (h_upd us4 hj)) ((h_upo us11 rfl 2).trans ((Gs10 26 2 rfl).trans ((Gs8 26 2 rfl).trans ((Gs6 26 2 rfl).trans (h_upo us4 rfl 2))))) ((h_upg us11 rfl).trans ((funext (fun j => Gs10 27 j rfl)).trans ((funext (fun j => Gs8 27 j rfl)).trans ((funext (fun j => Gs6 27 j rfl)).trans (h_upg us4 rfl))))) ((h_upg us11 rfl).trans ((funext (fun j => Gs10 28 j rfl)).trans ((funext (fun j => Gs8 28 j rfl)).trans ((funext (fun j => Gs6 28 j rfl)).trans (h_upg us4 rfl))))) ((h_upo us11 rfl 2).trans ((Gs10 29 2 rfl).trans ((Gs8 29 2 rfl).trans ((Gs6 29 2 rfl).trans (h_upo us4 rfl 2))))) ((h_upg us11 rfl).trans ((funext (fun j => Gs10 30 j rfl)).trans ((funext (fun j => Gs8 30 j rfl)).trans ((funext (fun j => Gs6 30 j rfl)).trans (h_upg us4 rfl))))) ((h_upg us11 rfl).trans ((funext (fun j => Gs10 31 j rfl)).trans ((funext (fun j => Gs8 31 j rfl)).trans ((funext (fun j => Gs6 31 j rfl)).trans (h_upg us4 rfl))))) (fun j _ => congrFun ((h_upg us11 rfl).trans ((funext (fun j => Gs10 32 j rfl)).trans ((funext (fun j => Gs8 32 j rfl)).trans ((funext (fun j => Gs6 32 j rfl)).trans (h_upg us4 rfl))))) j) ((h_upg us11 rfl).trans ((funext (fun j => Gs10 33 j rfl)).trans ((funext (fun j => Gs8 33 j rfl)).trans ((funext (fun j => Gs6 33 j rfl)).trans (h_upg us4 rfl))))) ((h_upg us11 rfl).trans ((funext (fun j => Gs10 35 j rfl)).trans ((funext (fun j => Gs8 35 j rfl)).trans ((funext (fun j => Gs6 35 j rfl)).trans (h_upg us4 rfl)))))) (by have ew : z12 = r9 := h_ieq.mpr (by have e1 := hz12; have e2 := hr9; have e3 := h_upv us11; omega); have gq := ps14_0; rw [ew] at gq; rw [show s11 91 = σ 91 from ((h_upg us11 rfl).trans ((funext (fun j => Gs10 91 j rfl)).trans ((funext (fun j => Gs8 91 j rfl)).trans ((funext (fun j => Gs6 91 j rfl)).trans (h_upg us4 rfl))))).trans (funext (fun j => F0_ 91 j rfl)), show s11 92 = σ 92 from ((h_upg us11 rfl).trans ((funext (fun j => Gs10 92 j rfl)).trans ((funext (fun j => Gs8 92 j rfl)).trans ((funext (fun j => Gs6 92 j rfl)).trans (h_upg us4 rfl))))).trans (funext (fun j => F0_ 92 j rfl)), show s11 90 2 = σ 90 2 from ((h_upo us11 rfl 2).trans ((Gs10 90 2 rfl).trans ((Gs8 90 2 rfl).trans ((Gs6 90 2 rfl).trans (h_upo us4 rfl 2))))).trans (F0_ 90 2 rfl)] at gq; exact g_iv_n ex1 (by omega) (fun k w k0 k1 z => ⟨z.1, (congrFun (rfl : s11 97 = s11 97) k).trans ((h_upd us11 (by omega)).trans ((congrFun ((funext (fun j => Gs10 97 j rfl)).trans ((funext (fun j => Gs8 97 j rfl)).trans ((funext (fun j => Gs6 97 j rfl)).trans (h_upg us4 rfl)))) k).trans z.2))⟩) (decide_eq_true (by omega)) ⟨⟨s8, s8 80, s8 81, (g_ct3.e ex0 ((Gs8 23 8 rfl).trans ((Gs6 23 8 rfl).trans (h_upo us4 rfl 8))) ((Gs8 23 9 rfl).trans ((Gs6 23 9 rfl).trans (h_upo us4 rfl 9))) ((Gs8 23 10 rfl).trans ((Gs6 23 10 rfl).trans (h_upo us4 rfl 10))) ((funext (fun j => Gs8 24 j rfl)).trans ((funext (fun j => Gs6 24 j rfl)).trans (h_upg us4 rfl))) (fun j hj => (congrFun ((funext (fun j => Gs8 25 j rfl)).trans (funext (fun j => Gs6 25 j rfl))) j).trans (h_upd us4 hj)) ((Gs8 26 2 rfl).trans ((Gs6 26 2 rfl).trans (h_upo us4 rfl 2))) ((funext (fun j => Gs8 27 j rfl)).trans ((funext (fun j => Gs6 27 j rfl)).trans (h_upg us4 rfl))) ((funext (fun j => Gs8 28 j rfl)).trans ((funext (fun j => Gs6 28 j rfl)).trans (h_upg us4 rfl))) ((Gs8 29 2 rfl).trans ((Gs6 29 2 rfl).trans (h_upo us4 rfl 2))) ((funext (fun j => Gs8 30 j rfl)).trans ((funext (fun j => Gs6 30 j rfl)).trans (h_upg us4 rfl))) ((funext (fun j => Gs8 31 j rfl)).trans ((funext (fun j => Gs6 31 j rfl)).trans (h_upg us4 rfl))) (fun j _ => congrFun ((funext (fun j => Gs8 32 j rfl)).trans ((funext (fun j => Gs6 32 j rfl)).trans (h_upg us4 rfl))) j) ((funext (fun j => Gs8 33 j rfl)).trans ((funext (fun j => Gs6 33 j rfl)).trans (h_upg us4 rfl))) ((funext (fun j => Gs8 35 j rfl)).trans ((funext (fun j => Gs6 35 j rfl)).trans (h_upg us4 rfl)))), (fun _ => (congrFun ((funext (fun j => Gs8 25 j rfl)).trans (funext (fun j => Gs6 25 j rfl))) a0).trans ((h_upv us4).trans (by first | rw [if_pos (by omega)] | rw [if_neg (by omega)]))), fun z => absurd z (by omega), (g_DX_f (g_DX_t ps6_0 ((Gs8 23 8 rfl).trans (Gs6 23 8 rfl)).symm ((funext (fun j => Gs8 25 j rfl)).trans (funext (fun j => Gs6 25 j rfl))).symm ((funext (fun j => Gs8 24 j rfl)).trans (funext (fun j => Gs6 24 j rfl))).symm ((Gs8 26 2 rfl).trans (Gs6 26 2 rfl)).symm ((funext (fun j => Gs8 27 j rfl)).trans (funext (fun j => Gs6 27 j rfl))).symm ((funext (fun j => Gs8 28 j rfl)).trans (funext (fun j => Gs6 28 j rfl))).symm) (funext (fun j => Gs8 80 j rfl))), (g_FX_t ps6_2 ((Gs8 23 8 rfl).trans (Gs6 23 8 rfl)).symm ((funext (fun j => Gs8 30 j rfl)).trans (funext (fun j => Gs6 30 j rfl))).symm ((funext (fun j => Gs8 31 j rfl)).trans (funext (fun j => Gs6 31 j rfl))).symm ((Gs8 29 2 rfl).trans (Gs6 29 2 rfl)).symm (funext (fun j => Gs8 81 j rfl))), (g_run_c ps10_0 (g_ct3.lk (g_ct3.e ex0 ((Gs8 23 8 rfl).trans ((Gs6 23 8 rfl).trans (h_upo us4 rfl 8))) ((Gs8 23 9 rfl).trans ((Gs6 23 9 rfl).trans (h_upo us4 rfl 9))) ((Gs8 23 10 rfl).trans ((Gs6 23 10 rfl).trans (h_upo us4 rfl 10))) ((funext (fun j => Gs8 24 j rfl)).trans ((funext (fun j => Gs6 24 j rfl)).trans (h_upg us4 rfl))) (fun j hj => (congrFun ((funext (fun j => Gs8 25 j rfl)).trans (funext (fun j => Gs6 25 j rfl))) j).trans (h_upd us4 hj)) ((Gs8 26 2 rfl).trans ((Gs6 26 2 rfl).trans (h_upo us4 rfl 2))) ((funext (fun j => Gs8 27 j rfl)).trans ((funext (fun j => Gs6 27 j rfl)).trans (h_upg us4 rfl))) ((funext (fun j => Gs8 28 j rfl)).trans ((funext (fun j => Gs6 28 j rfl)).trans (h_upg us4 rfl))) ((Gs8 29 2 rfl).trans ((Gs6 29 2 rfl).trans (h_upo us4 rfl 2))) ((funext (fun j => Gs8 30 j rfl)).trans ((funext (fun j => Gs6 30 j rfl)).trans (h_upg us4 rfl))) ((funext (fun j => Gs8 31 j rfl)).trans ((funext (fun j => Gs6 31 j rfl)).trans (h_upg us4 rfl))) (fun j _ => congrFun ((funext (fun j => Gs8 32 j rfl)).trans ((funext (fun j => Gs6 32 j rfl)).trans (h_upg us4 rfl))) j) ((funext (fun j => Gs8 33 j rfl)).trans ((funext (fun j => Gs6 33 j rfl)).trans (h_upg us4 rfl))) ((funext (fun j => Gs8 35 j rfl)).trans ((funext (fun j => Gs6 35 j rfl)).trans (h_upg us4 rfl)))) hI pr0) (g_ct3.pl (g_ct3.e ex0 ((Gs8 23 8 rfl).trans ((Gs6 23 8 rfl).trans (h_upo us4 rfl 8))) ((Gs8 23 9 rfl).trans ((Gs6 23 9 rfl).trans (h_upo us4 rfl 9))) ((Gs8 23 10 rfl).trans ((Gs6 23 10 rfl).trans (h_upo us4 rfl 10))) ((funext (fun j => Gs8 24 j rfl)).trans ((funext (fun j => Gs6 24 j rfl)).trans (h_upg us4 rfl))) (fun j hj => (congrFun ((funext (fun j => Gs8 25 j rfl)).trans (funext (fun j => Gs6 25 j rfl))) j).trans (h_upd us4 hj)) ((Gs8 26 2 rfl).trans ((Gs6 26 2 rfl).trans (h_upo us4 rfl 2))) ((funext (fun j => Gs8 27 j rfl)).trans ((funext (fun j => Gs6 27 j rfl)).trans (h_upg us4 rfl))) ((funext (fun j => Gs8 28 j rfl)).trans ((funext (fun j => Gs6 28 j rfl)).trans (h_upg us4 rfl))) ((Gs8 29 2 rfl).trans ((Gs6 29 2 rfl).trans (h_upo us4 rfl 2))) ((funext (fun j => Gs8 30 j rfl)).trans ((funext (fun j => Gs6 30 j rfl)).trans (h_upg us4 rfl))) ((funext (fun j => Gs8 31 j rfl)).trans ((funext (fun j => Gs6 31 j rfl)).trans (h_upg us4 rfl))) (fun j _ => congrFun ((funext (fun j => Gs8 32 j rfl)).trans ((funext (fun j => Gs6 32 j rfl)).trans (h_upg us4 rfl))) j) ((funext (fun j => Gs8 33 j rfl)).trans ((funext (fun j => Gs6 33 j rfl)).trans (h_upg us4 rfl))) ((funext (fun j => Gs8 35 j rfl)).trans ((funext (fun j => Gs6 35 j rfl)).trans (h_upg us4 rfl)))) hI pr1)).2⟩, ((congrFun (rfl : s11 97 = s11 97) b3).trans ((h_upv us11).trans hr9.symm))⟩ (g_if_n gq (by omega)) rfl) (by omega))
        · refine h_iload_n (pc' := 96) rfl rfl rfl ?_
          refine h_iconst (pc' := 97) (x := (Int32.ofInt 1)) rfl rfl rfl ?_
          refine h_iload_n (pc' := 98) rfl rfl rfl ?_
          refine h_shl1 (pc' := 99) rfl rfl ci_1 hy3 (by omega) (by omega) (fun z17 hz17 vz17 => ?_)
          refine h_ior (pc' := 100) rfl rfl (fun z18 hz18 => ?_)
          refine h_istore_n (pc' := 101) (M := [(2, .int z18), (0, .ref 9), (1, .int x0), (3, .int y3)]) rfl rfl rfl rfl ?_
          refine h_iinc (pc' := 104) (M := fun z19 => [(3, .int z19), (2, .int z18), (0, .ref 9), (1, .int x0)]) rfl rfl rfl rfl hy3 ci_1 rfl (by omega) (by omega) (fun _ => rfl) (fun z19 hz19 => ?_)
          refine h_goto (pc' := 15) rfl rfl ?_
          exact h_wk [(0, .ref 9), (1, .int x0), (2, .int z18), (3, .int z19)] ⟨rfl, rfl, rfl, rfl, trivial⟩ (ih _ Is11 Fs11 z18 _ rfl z19 _ hz19 (by omega) (g_ct3.e ex0 ((h_upo us11 rfl 8).trans ((Gs10 23 8 rfl).trans ((Gs8 23 8 rfl).trans ((Gs6 23 8 rfl).trans (h_upo us4 rfl 8))))) ((h_upo us11 rfl 9).trans ((Gs10 23 9 rfl).trans ((Gs8 23 9 rfl).trans ((Gs6 23 9 rfl).trans (h_upo us4 rfl 9))))) ((h_upo us11 rfl 10).trans ((Gs10 23 10 rfl).trans ((Gs8 23 10 rfl).trans ((Gs6 23 10 rfl).trans (h_upo us4 rfl 10))))) ((h_upg us11 rfl).trans ((funext (fun j => Gs10 24 j rfl)).trans ((funext (fun j => Gs8 24 j rfl)).trans ((funext (fun j => Gs6 24 j rfl)).trans (h_upg us4 rfl))))) (fun j hj => (congrFun ((h_upg us11 rfl).trans ((funext (fun j => Gs10 25 j rfl)).trans ((funext (fun j => Gs8 25 j rfl)).trans (funext (fun j => Gs6 25 j rfl))))) j).trans (h_upd us4 hj)) ((h_upo us11 rfl 2).trans ((Gs10 26 2 rfl).trans ((Gs8 26 2 rfl).trans ((Gs6 26 2 rfl).trans (h_upo us4 rfl 2))))) ((h_upg us11 rfl).trans ((funext (fun j => Gs10 27 j rfl)).trans ((funext (fun j => Gs8 27 j rfl)).trans ((funext (fun j => Gs6 27 j rfl)).trans (h_upg us4 rfl))))) ((h_upg us11 rfl).trans ((funext (fun j => Gs10 28 j rfl)).trans ((funext (fun j => Gs8 28 j rfl)).trans ((funext (fun j => Gs6 28 j rfl)).trans (h_upg us4 rfl))))) ((h_upo us11 rfl 2).trans ((Gs10 29 2 rfl).trans ((Gs8 29 2 rfl).trans ((Gs6 29 2 rfl).trans (h_upo us4 rfl 2))))) ((h_upg us11 rfl).trans ((funext (fun j => Gs10 30 j rfl)).trans ((funext (fun j => Gs8 30 j rfl)).trans ((funext (fun j => Gs6 30 j rfl)).trans (h_upg us4 rfl))))) ((h_upg us11 rfl).trans ((funext (fun j => Gs10 31 j rfl)).trans ((funext (fun j => Gs8 31 j rfl)).trans ((funext (fun j => Gs6 31 j rfl)).trans (h_upg us4 rfl))))) (fun j _ => congrFun ((h_upg us11 rfl).trans ((funext (fun j => Gs10 32 j rfl)).trans ((funext (fun j => Gs8 32 j rfl)).trans ((funext (fun j => Gs6 32 j rfl)).trans (h_upg us4 rfl))))) j) ((h_upg us11 rfl).trans ((funext (fun j => Gs10 33 j rfl)).trans ((funext (fun j => Gs8 33 j rfl)).trans ((funext (fun j => Gs6 33 j rfl)).trans (h_upg us4 rfl))))) ((h_upg us11 rfl).trans ((funext (fun j => Gs10 35 j rfl)).trans ((funext (fun j => Gs8 35 j rfl)).trans ((funext (fun j => Gs6 35 j rfl)).trans (h_upg us4 rfl)))))) (by have ew : z12 = r9 := h_ieq.mpr (by have e1 := hz12; have e2 := hr9; have e3 := h_upv us11; omega); have gq := ps14_0; rw [ew] at gq; rw [show s11 91 = σ 91 from ((h_upg us11 rfl).trans ((funext (fun j => Gs10 91 j rfl)).trans ((funext (fun j => Gs8 91 j rfl)).trans ((funext (fun j => Gs6 91 j rfl)).trans (h_upg us4 rfl))))).trans (funext (fun j => F0_ 91 j rfl)), show s11 92 = σ 92 from ((h_upg us11 rfl).trans ((funext (fun j => Gs10 92 j rfl)).trans ((funext (fun j => Gs8 92 j rfl)).trans ((funext (fun j => Gs6 92 j rfl)).trans (h_upg us4 rfl))))).trans (funext (fun j => F0_ 92 j rfl)), show s11 90 2 = σ 90 2 from ((h_upo us11 rfl 2).trans ((Gs10 90 2 rfl).trans ((Gs8 90 2 rfl).trans ((Gs6 90 2 rfl).trans (h_upo us4 rfl 2))))).trans (F0_ 90 2 rfl)] at gq; exact g_iv_y ex1 (by omega) (fun k w k0 k1 z => ⟨z.1, (congrFun (rfl : s11 97 = s11 97) k).trans ((h_upd us11 (by omega)).trans ((congrFun ((funext (fun j => Gs10 97 j rfl)).trans ((funext (fun j => Gs8 97 j rfl)).trans ((funext (fun j => Gs6 97 j rfl)).trans (h_upg us4 rfl)))) k).trans z.2))⟩) (decide_eq_true (by omega)) ⟨⟨s8, s8 80, s8 81, (g_ct3.e ex0 ((Gs8 23 8 rfl).trans ((Gs6 23 8 rfl).trans (h_upo us4 rfl 8))) ((Gs8 23 9 rfl).trans ((Gs6 23 9 rfl).trans (h_upo us4 rfl 9))) ((Gs8 23 10 rfl).trans ((Gs6 23 10 rfl).trans (h_upo us4 rfl 10))) ((funext (fun j => Gs8 24 j rfl)).trans ((funext (fun j => Gs6 24 j rfl)).trans (h_upg us4 rfl))) (fun j hj => (congrFun ((funext (fun j => Gs8 25 j rfl)).trans (funext (fun j => Gs6 25 j rfl))) j).trans (h_upd us4 hj)) ((Gs8 26 2 rfl).trans ((Gs6 26 2 rfl).trans (h_upo us4 rfl 2))) ((funext (fun j => Gs8 27 j rfl)).trans ((funext (fun j => Gs6 27 j rfl)).trans (h_upg us4 rfl))) ((funext (fun j => Gs8 28 j rfl)).trans ((funext (fun j => Gs6 28 j rfl)).trans (h_upg us4 rfl))) ((Gs8 29 2 rfl).trans ((Gs6 29 2 rfl).trans (h_upo us4 rfl 2))) ((funext (fun j => Gs8 30 j rfl)).trans ((funext (fun j => Gs6 30 j rfl)).trans (h_upg us4 rfl))) ((funext (fun j => Gs8 31 j rfl)).trans ((funext (fun j => Gs6 31 j rfl)).trans (h_upg us4 rfl))) (fun j _ => congrFun ((funext (fun j => Gs8 32 j rfl)).trans ((funext (fun j => Gs6 32 j rfl)).trans (h_upg us4 rfl))) j) ((funext (fun j => Gs8 33 j rfl)).trans ((funext (fun j => Gs6 33 j rfl)).trans (h_upg us4 rfl))) ((funext (fun j => Gs8 35 j rfl)).trans ((funext (fun j => Gs6 35 j rfl)).trans (h_upg us4 rfl)))), (fun _ => (congrFun ((funext (fun j => Gs8 25 j rfl)).trans (funext (fun j => Gs6 25 j rfl))) a0).trans ((h_upv us4).trans (by first | rw [if_pos (by omega)] | rw [if_neg (by omega)]))), fun z => absurd z (by omega), (g_DX_f (g_DX_t ps6_0 ((Gs8 23 8 rfl).trans (Gs6 23 8 rfl)).symm ((funext (fun j => Gs8 25 j rfl)).trans (funext (fun j => Gs6 25 j rfl))).symm ((funext (fun j => Gs8 24 j rfl)).trans (funext (fun j => Gs6 24 j rfl))).symm ((Gs8 26 2 rfl).trans (Gs6 26 2 rfl)).symm ((funext (fun j => Gs8 27 j rfl)).trans (funext (fun j => Gs6 27 j rfl))).symm ((funext (fun j => Gs8 28 j rfl)).trans (funext (fun j => Gs6 28 j rfl))).symm) (funext (fun j => Gs8 80 j rfl))), (g_FX_t ps6_2 ((Gs8 23 8 rfl).trans (Gs6 23 8 rfl)).symm ((funext (fun j => Gs8 30 j rfl)).trans (funext (fun j => Gs6 30 j rfl))).symm ((funext (fun j => Gs8 31 j rfl)).trans (funext (fun j => Gs6 31 j rfl))).symm ((Gs8 29 2 rfl).trans (Gs6 29 2 rfl)).symm (funext (fun j => Gs8 81 j rfl))), (g_run_c ps10_0 (g_ct3.lk (g_ct3.e ex0 ((Gs8 23 8 rfl).trans ((Gs6 23 8 rfl).trans (h_upo us4 rfl 8))) ((Gs8 23 9 rfl).trans ((Gs6 23 9 rfl).trans (h_upo us4 rfl 9))) ((Gs8 23 10 rfl).trans ((Gs6 23 10 rfl).trans (h_upo us4 rfl 10))) ((funext (fun j => Gs8 24 j rfl)).trans ((funext (fun j => Gs6 24 j rfl)).trans (h_upg us4 rfl))) (fun j hj => (congrFun ((funext (fun j => Gs8 25 j rfl)).trans (funext (fun j => Gs6 25 j rfl))) j).trans (h_upd us4 hj)) ((Gs8 26 2 rfl).trans ((Gs6 26 2 rfl).trans (h_upo us4 rfl 2))) ((funext (fun j => Gs8 27 j rfl)).trans ((funext (fun j => Gs6 27 j rfl)).trans (h_upg us4 rfl))) ((funext (fun j => Gs8 28 j rfl)).trans ((funext (fun j => Gs6 28 j rfl)).trans (h_upg us4 rfl))) ((Gs8 29 2 rfl).trans ((Gs6 29 2 rfl).trans (h_upo us4 rfl 2))) ((funext (fun j => Gs8 30 j rfl)).trans ((funext (fun j => Gs6 30 j rfl)).trans (h_upg us4 rfl))) ((funext (fun j => Gs8 31 j rfl)).trans ((funext (fun j => Gs6 31 j rfl)).trans (h_upg us4 rfl))) (fun j _ => congrFun ((funext (fun j => Gs8 32 j rfl)).trans ((funext (fun j => Gs6 32 j rfl)).trans (h_upg us4 rfl))) j) ((funext (fun j => Gs8 33 j rfl)).trans ((funext (fun j => Gs6 33 j rfl)).trans (h_upg us4 rfl))) ((funext (fun j => Gs8 35 j rfl)).trans ((funext (fun j => Gs6 35 j rfl)).trans (h_upg us4 rfl)))) hI pr0) (g_ct3.pl (g_ct3.e ex0 ((Gs8 23 8 rfl).trans ((Gs6 23 8 rfl).trans (h_upo us4 rfl 8))) ((Gs8 23 9 rfl).trans ((Gs6 23 9 rfl).trans (h_upo us4 rfl 9))) ((Gs8 23 10 rfl).trans ((Gs6 23 10 rfl).trans (h_upo us4 rfl 10))) ((funext (fun j => Gs8 24 j rfl)).trans ((funext (fun j => Gs6 24 j rfl)).trans (h_upg us4 rfl))) (fun j hj => (congrFun ((funext (fun j => Gs8 25 j rfl)).trans (funext (fun j => Gs6 25 j rfl))) j).trans (h_upd us4 hj)) ((Gs8 26 2 rfl).trans ((Gs6 26 2 rfl).trans (h_upo us4 rfl 2))) ((funext (fun j => Gs8 27 j rfl)).trans ((funext (fun j => Gs6 27 j rfl)).trans (h_upg us4 rfl))) ((funext (fun j => Gs8 28 j rfl)).trans ((funext (fun j => Gs6 28 j rfl)).trans (h_upg us4 rfl))) ((Gs8 29 2 rfl).trans ((Gs6 29 2 rfl).trans (h_upo us4 rfl 2))) ((funext (fun j => Gs8 30 j rfl)).trans ((funext (fun j => Gs6 30 j rfl)).trans (h_upg us4 rfl))) ((funext (fun j => Gs8 31 j rfl)).trans ((funext (fun j => Gs6 31 j rfl)).trans (h_upg us4 rfl))) (fun j _ => congrFun ((funext (fun j => Gs8 32 j rfl)).trans ((funext (fun j => Gs6 32 j rfl)).trans (h_upg us4 rfl))) j) ((funext (fun j => Gs8 33 j rfl)).trans ((funext (fun j => Gs6 33 j rfl)).trans (h_upg us4 rfl))) ((funext (fun j => Gs8 35 j rfl)).trans ((funext (fun j => Gs6 35 j rfl)).trans (h_upg us4 rfl)))) hI pr1)).2⟩, ((congrFun (rfl : s11 97 = s11 97) b3).trans ((h_upv us11).trans hr9.symm))⟩ (g_if_y gq (by omega)) (g_or_of hz18 hz17 hy3)) (by omega))
      · refine h_iload_n (pc' := 27) rfl rfl rfl ?_
        refine h_bipush (pc' := 29) (x := (Int32.ofInt 6)) rfl rfl cb_6 ?_
        refine h_cne (tg := 101) (pc' := 32) rfl rfl rfl hy3 ci_6 (fun c20 => ?_) (fun c20 => ?_)
        · refine h_iinc (pc' := 104) (M := fun z21 => [(3, .int z21), (0, .ref 9), (1, .int x0), (2, .int y2)]) rfl rfl rfl rfl hy3 ci_1 rfl (by omega) (by omega) (fun _ => rfl) (fun z21 hz21 => ?_)
          refine h_goto (pc' := 15) rfl rfl ?_
          exact h_wk [(0, .ref 9), (1, .int x0), (2, .int y2), (3, .int z21)] ⟨rfl, rfl, rfl, rfl, trivial⟩ (ih _ I0 F0_ y2 _ hy2 z21 _ hz21 (by omega) ex0 (g_iv_s ex1 (by omega) (fun k w _ _ z => z) (decide_eq_false (by omega)) rfl) (by omega))
        · refine h_aload_n (pc' := 33) rfl rfl rfl ?_
          refine h_getR (pc' := 36) rfl rfl rfl rfl rfl ?_
          refine h_getR (pc' := 39) rfl rfl rfl rfl rfl ?_
          refine h_iload_n (pc' := 40) rfl rfl rfl ?_
          refine h_iload_n (pc' := 41) rfl rfl rfl ?_
          refine h_bipush (pc' := 43) (x := (Int32.ofInt 6)) rfl rfl cb_6 ?_
          refine h_cne (tg := 51) (pc' := 46) rfl rfl rfl hy3 ci_6 (fun c22 => absurd c22 (by omega)) (fun c22 => ?_)
          refine h_bipush (pc' := 48) (x := (Int32.ofInt (-4))) rfl rfl cb_m4 ?_
          refine h_goto (pc' := 52) rfl rfl ?_
          refine h_iast (pc' := 53) rfl rfl rfl rfl hx0 (by omega) (by omega) ci_m4 (h_fgt (E := fun s => s 98 13 = s0 98 13 ∧ s = h_up s0 25 a0 (-4)) _ (in_25 I0 (by omega)) (F0_.up rfl) ⟨rfl, rfl⟩ (fun s23 Is23 Fs23 (es23 : s23 98 13 = s0 98 13 ∧ s23 = h_up s0 25 a0 (-4)) => ?_))
          have us23 := es23.2
          refine h_aload_n (pc' := 54) rfl rfl rfl ?_
          refine h_aload_n (pc' := 55) rfl rfl rfl ?_
          refine h_getR (pc' := 58) rfl rfl rfl rfl rfl ?_
          refine h_call (sp := false) (pc' := 61) (M := [(0, .ref 9), (1, .ref 23)]) rfl rfl rfl rfl rfl rfl rfl rfl ?_
          refine h_aload_n (pc' := 1) rfl rfl rfl ?_
          refine h_getR (pc' := 4) rfl rfl rfl rfl rfl ?_
          refine h_aload_n (pc' := 5) rfl rfl rfl ?_
          refine h_call (sp := false) (pc' := 8) (M := [(0, .ref 79), (1, .ref 23)]) rfl rfl rfl rfl rfl rfl rfl rfl ?_
          refine n_measure_23 _ Is23  (fun s25 Is25 Gs25 ps25_0 ps25_1 ps25_2 => h_Kn ?_)
          have Fs25 := (Gs25.mono (B := kf_n_tryX) rfl).tr Fs23
          have es25_0 : s25 98 13 = s0 98 13 := (Gs25 98 13 rfl).trans es23.1
          refine h_aload_n (pc' := 9) rfl rfl rfl ?_
          refine h_getR (pc' := 12) rfl rfl rfl rfl rfl ?_
          refine h_aload_n (pc' := 13) rfl rfl rfl ?_
          refine h_aload_n (pc' := 14) rfl rfl rfl ?_
          refine h_getR (pc' := 17) rfl rfl rfl rfl rfl ?_
          refine h_call (sp := false) (pc' := 20) (M := [(0, .ref 82), (1, .ref 23), (2, .ref 79)]) rfl rfl rfl rfl rfl rfl rfl rfl ?_
          refine n_open_23 _ Is25  (fun s27 Is27 Gs27 ps27_0 => h_Kn ?_)
          have Fs27 := (Gs27.mono (B := kf_n_tryX) rfl).tr Fs25
          have es27_0 : s27 98 13 = s0 98 13 := (Gs27 98 13 rfl).trans es25_0
          refine h_vret rfl rfl (h_Kn ?_)
          refine h_aload_n (pc' := 62) rfl rfl rfl ?_
          refine h_getR (pc' := 65) rfl rfl rfl rfl rfl ?_
          refine h_iload_n (pc' := 66) rfl rfl rfl ?_
          refine h_aload_n (pc' := 67) rfl rfl rfl ?_
          refine h_getR (pc' := 70) rfl rfl rfl rfl rfl ?_
          refine h_aload_n (pc' := 71) rfl rfl rfl ?_
          refine h_getR (pc' := 74) rfl rfl rfl rfl rfl ?_
          refine h_iconst (pc' := 75) (x := (Int32.ofInt 0)) rfl rfl rfl ?_
          refine h_call (sp := false) (pc' := 78) (M := [(0, .ref 82), (1, .ref 23), (2, .int (Int32.ofInt 0))]) rfl rfl rfl rfl rfl rfl rfl rfl ?_
          refine n_run_23 _ Is27 (Int32.ofInt 0) _ ci_0 (g_op_t ps27_0 (ps25_1.trans ((Gs27 23 8 rfl).trans (Gs25 23 8 rfl)).symm) (funext (fun j => Gs27 80 j rfl)).symm (funext (fun j => Gs27 81 j rfl)).symm (funext (fun j => Gs27 32 j rfl)).symm (Gs27 23 9 rfl).symm rfl) (g_ct3.lk (g_ct3.e ex0 ((Gs27 23 8 rfl).trans ((Gs25 23 8 rfl).trans (h_upo us23 rfl 8))) ((Gs27 23 9 rfl).trans ((Gs25 23 9 rfl).trans (h_upo us23 rfl 9))) ((Gs27 23 10 rfl).trans ((Gs25 23 10 rfl).trans (h_upo us23 rfl 10))) ((funext (fun j => Gs27 24 j rfl)).trans ((funext (fun j => Gs25 24 j rfl)).trans (h_upg us23 rfl))) (fun j hj => (congrFun ((funext (fun j => Gs27 25 j rfl)).trans (funext (fun j => Gs25 25 j rfl))) j).trans (h_upd us23 hj)) ((Gs27 26 2 rfl).trans ((Gs25 26 2 rfl).trans (h_upo us23 rfl 2))) ((funext (fun j => Gs27 27 j rfl)).trans ((funext (fun j => Gs25 27 j rfl)).trans (h_upg us23 rfl))) ((funext (fun j => Gs27 28 j rfl)).trans ((funext (fun j => Gs25 28 j rfl)).trans (h_upg us23 rfl))) ((Gs27 29 2 rfl).trans ((Gs25 29 2 rfl).trans (h_upo us23 rfl 2))) ((funext (fun j => Gs27 30 j rfl)).trans ((funext (fun j => Gs25 30 j rfl)).trans (h_upg us23 rfl))) ((funext (fun j => Gs27 31 j rfl)).trans ((funext (fun j => Gs25 31 j rfl)).trans (h_upg us23 rfl))) (fun j _ => congrFun ((funext (fun j => Gs27 32 j rfl)).trans ((funext (fun j => Gs25 32 j rfl)).trans (h_upg us23 rfl))) j) ((funext (fun j => Gs27 33 j rfl)).trans ((funext (fun j => Gs25 33 j rfl)).trans (h_upg us23 rfl))) ((funext (fun j => Gs27 35 j rfl)).trans ((funext (fun j => Gs25 35 j rfl)).trans (h_upg us23 rfl)))) hI pr0) (g_ct3.pl (g_ct3.e ex0 ((Gs27 23 8 rfl).trans ((Gs25 23 8 rfl).trans (h_upo us23 rfl 8))) ((Gs27 23 9 rfl).trans ((Gs25 23 9 rfl).trans (h_upo us23 rfl 9))) ((Gs27 23 10 rfl).trans ((Gs25 23 10 rfl).trans (h_upo us23 rfl 10))) ((funext (fun j => Gs27 24 j rfl)).trans ((funext (fun j => Gs25 24 j rfl)).trans (h_upg us23 rfl))) (fun j hj => (congrFun ((funext (fun j => Gs27 25 j rfl)).trans (funext (fun j => Gs25 25 j rfl))) j).trans (h_upd us23 hj)) ((Gs27 26 2 rfl).trans ((Gs25 26 2 rfl).trans (h_upo us23 rfl 2))) ((funext (fun j => Gs27 27 j rfl)).trans ((funext (fun j => Gs25 27 j rfl)).trans (h_upg us23 rfl))) ((funext (fun j => Gs27 28 j rfl)).trans ((funext (fun j => Gs25 28 j rfl)).trans (h_upg us23 rfl))) ((Gs27 29 2 rfl).trans ((Gs25 29 2 rfl).trans (h_upo us23 rfl 2))) ((funext (fun j => Gs27 30 j rfl)).trans ((funext (fun j => Gs25 30 j rfl)).trans (h_upg us23 rfl))) ((funext (fun j => Gs27 31 j rfl)).trans ((funext (fun j => Gs25 31 j rfl)).trans (h_upg us23 rfl))) (fun j _ => congrFun ((funext (fun j => Gs27 32 j rfl)).trans ((funext (fun j => Gs25 32 j rfl)).trans (h_upg us23 rfl))) j) ((funext (fun j => Gs27 33 j rfl)).trans ((funext (fun j => Gs25 33 j rfl)).trans (h_upg us23 rfl))) ((funext (fun j => Gs27 35 j rfl)).trans ((funext (fun j => Gs25 35 j rfl)).trans (h_upg us23 rfl)))) hI pr1) (fun r28 br28 hr28 s29 Is29 Gs29 ps29_0 => h_Kv ?_)
          have Fs29 := (Gs29.mono (B := kf_n_tryX) rfl).tr Fs27
          have es29_0 : s29 98 13 = s0 98 13 := (Gs29 98 13 rfl).trans es27_0
          refine h_iast (pc' := 79) rfl rfl rfl rfl hy3 (by omega) (by omega) hr28 (h_fgt (E := fun s => s 98 13 = s0 98 13 ∧ s = h_up s29 97 b3 br28) _ (in_97 Is29 (h_rgv hr28)) (Fs29.up rfl) ⟨es29_0, rfl⟩ (fun s30 Is30 Fs30 (es30 : s30 98 13 = s0 98 13 ∧ s30 = h_up s29 97 b3 br28) => ?_))
          have us30 := es30.2
          refine h_aload_n (pc' := 80) rfl rfl rfl ?_
          refine h_getR (pc' := 83) rfl rfl rfl rfl rfl ?_
          refine h_aload_n (pc' := 84) rfl rfl rfl ?_
          refine h_getR (pc' := 87) rfl rfl rfl rfl rfl ?_
          refine h_iload_n (pc' := 88) rfl rfl rfl ?_
          refine h_iald (pc' := 89) (v := s30 97 b3) rfl rfl rfl hy3 (by omega) (by omega) rfl (fun z31 hz31 => ?_)
          have tz31 := ty_97 Is30 b3
          refine h_call (sp := false) (pc' := 92) (M := [(0, .ref 90), (1, .int z31)]) rfl rfl rfl rfl rfl rfl rfl rfl ?_
          refine n_agX _ Is30 z31 _ hz31 (fun r32 br32 hr32 tr32 ps33_0 => h_Kv ?_)
          refine h_zeq (tg := 101) (pc' := 95) rfl rfl rfl hr32 (fun c34 => ?_) (fun c34 => ?_)
          · refine h_iinc (pc' := 104) (M := fun z35 => [(3, .int z35), (0, .ref 9), (1, .int x0), (2, .int y2)]) rfl rfl rfl rfl hy3 ci_1 rfl (by omega) (by omega) (fun _ => rfl) (fun z35 hz35 => ?_)
            refine h_goto (pc' := 15) rfl rfl ?_
            exact h_wk [(0, .ref 9), (1, .int x0), (2, .int y2), (3, .int z35)] ⟨rfl, rfl, rfl, rfl, trivial⟩ (ih _ Is30 Fs30 y2 _ hy2 z35 _ hz35 (by omega) (g_ct3.e ex0 ((h_upo us30 rfl 8).trans ((Gs29 23 8 rfl).trans ((Gs27 23 8 rfl).trans ((Gs25 23 8 rfl).trans (h_upo us23 rfl 8))))) ((h_upo us30 rfl 9).trans ((Gs29 23 9 rfl).trans ((Gs27 23 9 rfl).trans ((Gs25 23 9 rfl).trans (h_upo us23 rfl 9))))) ((h_upo us30 rfl 10).trans ((Gs29 23 10 rfl).trans ((Gs27 23 10 rfl).trans ((Gs25 23 10 rfl).trans (h_upo us23 rfl 10))))) ((h_upg us30 rfl).trans ((funext (fun j => Gs29 24 j rfl)).trans ((funext (fun j => Gs27 24 j rfl)).trans ((funext (fun j => Gs25 24 j rfl)).trans (h_upg us23 rfl))))) (fun j hj => (congrFun ((h_upg us30 rfl).trans ((funext (fun j => Gs29 25 j rfl)).trans ((funext (fun j => Gs27 25 j rfl)).trans (funext (fun j => Gs25 25 j rfl))))) j).trans (h_upd us23 hj)) ((h_upo us30 rfl 2).trans ((Gs29 26 2 rfl).trans ((Gs27 26 2 rfl).trans ((Gs25 26 2 rfl).trans (h_upo us23 rfl 2))))) ((h_upg us30 rfl).trans ((funext (fun j => Gs29 27 j rfl)).trans ((funext (fun j => Gs27 27 j rfl)).trans ((funext (fun j => Gs25 27 j rfl)).trans (h_upg us23 rfl))))) ((h_upg us30 rfl).trans ((funext (fun j => Gs29 28 j rfl)).trans ((funext (fun j => Gs27 28 j rfl)).trans ((funext (fun j => Gs25 28 j rfl)).trans (h_upg us23 rfl))))) ((h_upo us30 rfl 2).trans ((Gs29 29 2 rfl).trans ((Gs27 29 2 rfl).trans ((Gs25 29 2 rfl).trans (h_upo us23 rfl 2))))) ((h_upg us30 rfl).trans ((funext (fun j => Gs29 30 j rfl)).trans ((funext (fun j => Gs27 30 j rfl)).trans ((funext (fun j => Gs25 30 j rfl)).trans (h_upg us23 rfl))))) ((h_upg us30 rfl).trans ((funext (fun j => Gs29 31 j rfl)).trans ((funext (fun j => Gs27 31 j rfl)).trans ((funext (fun j => Gs25 31 j rfl)).trans (h_upg us23 rfl))))) (fun j _ => congrFun ((h_upg us30 rfl).trans ((funext (fun j => Gs29 32 j rfl)).trans ((funext (fun j => Gs27 32 j rfl)).trans ((funext (fun j => Gs25 32 j rfl)).trans (h_upg us23 rfl))))) j) ((h_upg us30 rfl).trans ((funext (fun j => Gs29 33 j rfl)).trans ((funext (fun j => Gs27 33 j rfl)).trans ((funext (fun j => Gs25 33 j rfl)).trans (h_upg us23 rfl))))) ((h_upg us30 rfl).trans ((funext (fun j => Gs29 35 j rfl)).trans ((funext (fun j => Gs27 35 j rfl)).trans ((funext (fun j => Gs25 35 j rfl)).trans (h_upg us23 rfl)))))) (by have ew : z31 = r28 := h_ieq.mpr (by have e1 := hz31; have e2 := hr28; have e3 := h_upv us30; omega); have gq := ps33_0; rw [ew] at gq; rw [show s30 91 = σ 91 from ((h_upg us30 rfl).trans ((funext (fun j => Gs29 91 j rfl)).trans ((funext (fun j => Gs27 91 j rfl)).trans ((funext (fun j => Gs25 91 j rfl)).trans (h_upg us23 rfl))))).trans (funext (fun j => F0_ 91 j rfl)), show s30 92 = σ 92 from ((h_upg us30 rfl).trans ((funext (fun j => Gs29 92 j rfl)).trans ((funext (fun j => Gs27 92 j rfl)).trans ((funext (fun j => Gs25 92 j rfl)).trans (h_upg us23 rfl))))).trans (funext (fun j => F0_ 92 j rfl)), show s30 90 2 = σ 90 2 from ((h_upo us30 rfl 2).trans ((Gs29 90 2 rfl).trans ((Gs27 90 2 rfl).trans ((Gs25 90 2 rfl).trans (h_upo us23 rfl 2))))).trans (F0_ 90 2 rfl)] at gq; exact g_iv_n ex1 (by omega) (fun k w k0 k1 z => ⟨z.1, (congrFun (rfl : s30 97 = s30 97) k).trans ((h_upd us30 (by omega)).trans ((congrFun ((funext (fun j => Gs29 97 j rfl)).trans ((funext (fun j => Gs27 97 j rfl)).trans ((funext (fun j => Gs25 97 j rfl)).trans (h_upg us23 rfl)))) k).trans z.2))⟩) (decide_eq_true (by omega)) ⟨⟨s27, s27 80, s27 81, (g_ct3.e ex0 ((Gs27 23 8 rfl).trans ((Gs25 23 8 rfl).trans (h_upo us23 rfl 8))) ((Gs27 23 9 rfl).trans ((Gs25 23 9 rfl).trans (h_upo us23 rfl 9))) ((Gs27 23 10 rfl).trans ((Gs25 23 10 rfl).trans (h_upo us23 rfl 10))) ((funext (fun j => Gs27 24 j rfl)).trans ((funext (fun j => Gs25 24 j rfl)).trans (h_upg us23 rfl))) (fun j hj => (congrFun ((funext (fun j => Gs27 25 j rfl)).trans (funext (fun j => Gs25 25 j rfl))) j).trans (h_upd us23 hj)) ((Gs27 26 2 rfl).trans ((Gs25 26 2 rfl).trans (h_upo us23 rfl 2))) ((funext (fun j => Gs27 27 j rfl)).trans ((funext (fun j => Gs25 27 j rfl)).trans (h_upg us23 rfl))) ((funext (fun j => Gs27 28 j rfl)).trans ((funext (fun j => Gs25 28 j rfl)).trans (h_upg us23 rfl))) ((Gs27 29 2 rfl).trans ((Gs25 29 2 rfl).trans (h_upo us23 rfl 2))) ((funext (fun j => Gs27 30 j rfl)).trans ((funext (fun j => Gs25 30 j rfl)).trans (h_upg us23 rfl))) ((funext (fun j => Gs27 31 j rfl)).trans ((funext (fun j => Gs25 31 j rfl)).trans (h_upg us23 rfl))) (fun j _ => congrFun ((funext (fun j => Gs27 32 j rfl)).trans ((funext (fun j => Gs25 32 j rfl)).trans (h_upg us23 rfl))) j) ((funext (fun j => Gs27 33 j rfl)).trans ((funext (fun j => Gs25 33 j rfl)).trans (h_upg us23 rfl))) ((funext (fun j => Gs27 35 j rfl)).trans ((funext (fun j => Gs25 35 j rfl)).trans (h_upg us23 rfl)))), (fun _ => (congrFun ((funext (fun j => Gs27 25 j rfl)).trans (funext (fun j => Gs25 25 j rfl))) a0).trans ((h_upv us23).trans (by first | rw [if_pos (by omega)] | rw [if_neg (by omega)]))), fun z => absurd z (by omega), (g_DX_f (g_DX_t ps25_0 ((Gs27 23 8 rfl).trans (Gs25 23 8 rfl)).symm ((funext (fun j => Gs27 25 j rfl)).trans (funext (fun j => Gs25 25 j rfl))).symm ((funext (fun j => Gs27 24 j rfl)).trans (funext (fun j => Gs25 24 j rfl))).symm ((Gs27 26 2 rfl).trans (Gs25 26 2 rfl)).symm ((funext (fun j => Gs27 27 j rfl)).trans (funext (fun j => Gs25 27 j rfl))).symm ((funext (fun j => Gs27 28 j rfl)).trans (funext (fun j => Gs25 28 j rfl))).symm) (funext (fun j => Gs27 80 j rfl))), (g_FX_t ps25_2 ((Gs27 23 8 rfl).trans (Gs25 23 8 rfl)).symm ((funext (fun j => Gs27 30 j rfl)).trans (funext (fun j => Gs25 30 j rfl))).symm ((funext (fun j => Gs27 31 j rfl)).trans (funext (fun j => Gs25 31 j rfl))).symm ((Gs27 29 2 rfl).trans (Gs25 29 2 rfl)).symm (funext (fun j => Gs27 81 j rfl))), (g_run_c ps29_0 (g_ct3.lk (g_ct3.e ex0 ((Gs27 23 8 rfl).trans ((Gs25 23 8 rfl).trans (h_upo us23 rfl 8))) ((Gs27 23 9 rfl).trans ((Gs25 23 9 rfl).trans (h_upo us23 rfl 9))) ((Gs27 23 10 rfl).trans ((Gs25 23 10 rfl).trans (h_upo us23 rfl 10))) ((funext (fun j => Gs27 24 j rfl)).trans ((funext (fun j => Gs25 24 j rfl)).trans (h_upg us23 rfl))) (fun j hj => (congrFun ((funext (fun j => Gs27 25 j rfl)).trans (funext (fun j => Gs25 25 j rfl))) j).trans (h_upd us23 hj)) ((Gs27 26 2 rfl).trans ((Gs25 26 2 rfl).trans (h_upo us23 rfl 2))) ((funext (fun j => Gs27 27 j rfl)).trans ((funext (fun j => Gs25 27 j rfl)).trans (h_upg us23 rfl))) ((funext (fun j => Gs27 28 j rfl)).trans ((funext (fun j => Gs25 28 j rfl)).trans (h_upg us23 rfl))) ((Gs27 29 2 rfl).trans ((Gs25 29 2 rfl).trans (h_upo us23 rfl 2))) ((funext (fun j => Gs27 30 j rfl)).trans ((funext (fun j => Gs25 30 j rfl)).trans (h_upg us23 rfl))) ((funext (fun j => Gs27 31 j rfl)).trans ((funext (fun j => Gs25 31 j rfl)).trans (h_upg us23 rfl))) (fun j _ => congrFun ((funext (fun j => Gs27 32 j rfl)).trans ((funext (fun j => Gs25 32 j rfl)).trans (h_upg us23 rfl))) j) ((funext (fun j => Gs27 33 j rfl)).trans ((funext (fun j => Gs25 33 j rfl)).trans (h_upg us23 rfl))) ((funext (fun j => Gs27 35 j rfl)).trans ((funext (fun j => Gs25 35 j rfl)).trans (h_upg us23 rfl)))) hI pr0) (g_ct3.pl (g_ct3.e ex0 ((Gs27 23 8 rfl).trans ((Gs25 23 8 rfl).trans (h_upo us23 rfl 8))) ((Gs27 23 9 rfl).trans ((Gs25 23 9 rfl).trans (h_upo us23 rfl 9))) ((Gs27 23 10 rfl).trans ((Gs25 23 10 rfl).trans (h_upo us23 rfl 10))) ((funext (fun j => Gs27 24 j rfl)).trans ((funext (fun j => Gs25 24 j rfl)).trans (h_upg us23 rfl))) (fun j hj => (congrFun ((funext (fun j => Gs27 25 j rfl)).trans (funext (fun j => Gs25 25 j rfl))) j).trans (h_upd us23 hj)) ((Gs27 26 2 rfl).trans ((Gs25 26 2 rfl).trans (h_upo us23 rfl 2))) ((funext (fun j => Gs27 27 j rfl)).trans ((funext (fun j => Gs25 27 j rfl)).trans (h_upg us23 rfl))) ((funext (fun j => Gs27 28 j rfl)).trans ((funext (fun j => Gs25 28 j rfl)).trans (h_upg us23 rfl))) ((Gs27 29 2 rfl).trans ((Gs25 29 2 rfl).trans (h_upo us23 rfl 2))) ((funext (fun j => Gs27 30 j rfl)).trans ((funext (fun j => Gs25 30 j rfl)).trans (h_upg us23 rfl))) ((funext (fun j => Gs27 31 j rfl)).trans ((funext (fun j => Gs25 31 j rfl)).trans (h_upg us23 rfl))) (fun j _ => congrFun ((funext (fun j => Gs27 32 j rfl)).trans ((funext (fun j => Gs25 32 j rfl)).trans (h_upg us23 rfl))) j) ((funext (fun j => Gs27 33 j rfl)).trans ((funext (fun j => Gs25 33 j rfl)).trans (h_upg us23 rfl))) ((funext (fun j => Gs27 35 j rfl)).trans ((funext (fun j => Gs25 35 j rfl)).trans (h_upg us23 rfl)))) hI pr1)).2⟩, ((congrFun (rfl : s30 97 = s30 97) b3).trans ((h_upv us30).trans hr28.symm))⟩ (g_if_n gq (by omega)) rfl) (by omega))
          · refine h_iload_n (pc' := 96) rfl rfl rfl ?_
            refine h_iconst (pc' := 97) (x := (Int32.ofInt 1)) rfl rfl rfl ?_
            refine h_iload_n (pc' := 98) rfl rfl rfl ?_
            refine h_shl1 (pc' := 99) rfl rfl ci_1 hy3 (by omega) (by omega) (fun z36 hz36 vz36 => ?_)
            refine h_ior (pc' := 100) rfl rfl (fun z37 hz37 => ?_)
            refine h_istore_n (pc' := 101) (M := [(2, .int z37), (0, .ref 9), (1, .int x0), (3, .int y3)]) rfl rfl rfl rfl ?_
            refine h_iinc (pc' := 104) (M := fun z38 => [(3, .int z38), (2, .int z37), (0, .ref 9), (1, .int x0)]) rfl rfl rfl rfl hy3 ci_1 rfl (by omega) (by omega) (fun _ => rfl) (fun z38 hz38 => ?_)
            refine h_goto (pc' := 15) rfl rfl ?_
            exact h_wk [(0, .ref 9), (1, .int x0), (2, .int z37), (3, .int z38)] ⟨rfl, rfl, rfl, rfl, trivial⟩ (ih _ Is30 Fs30 z37 _ rfl z38 _ hz38 (by omega) (g_ct3.e ex0 ((h_upo us30 rfl 8).trans ((Gs29 23 8 rfl).trans ((Gs27 23 8 rfl).trans ((Gs25 23 8 rfl).trans (h_upo us23 rfl 8))))) ((h_upo us30 rfl 9).trans ((Gs29 23 9 rfl).trans ((Gs27 23 9 rfl).trans ((Gs25 23 9 rfl).trans (h_upo us23 rfl 9))))) ((h_upo us30 rfl 10).trans ((Gs29 23 10 rfl).trans ((Gs27 23 10 rfl).trans ((Gs25 23 10 rfl).trans (h_upo us23 rfl 10))))) ((h_upg us30 rfl).trans ((funext (fun j => Gs29 24 j rfl)).trans ((funext (fun j => Gs27 24 j rfl)).trans ((funext (fun j => Gs25 24 j rfl)).trans (h_upg us23 rfl))))) (fun j hj => (congrFun ((h_upg us30 rfl).trans ((funext (fun j => Gs29 25 j rfl)).trans ((funext (fun j => Gs27 25 j rfl)).trans (funext (fun j => Gs25 25 j rfl))))) j).trans (h_upd us23 hj)) ((h_upo us30 rfl 2).trans ((Gs29 26 2 rfl).trans ((Gs27 26 2 rfl).trans ((Gs25 26 2 rfl).trans (h_upo us23 rfl 2))))) ((h_upg us30 rfl).trans ((funext (fun j => Gs29 27 j rfl)).trans ((funext (fun j => Gs27 27 j rfl)).trans ((funext (fun j => Gs25 27 j rfl)).trans (h_upg us23 rfl))))) ((h_upg us30 rfl).trans ((funext (fun j => Gs29 28 j rfl)).trans ((funext (fun j => Gs27 28 j rfl)).trans ((funext (fun j => Gs25 28 j rfl)).trans (h_upg us23 rfl))))) ((h_upo us30 rfl 2).trans ((Gs29 29 2 rfl).trans ((Gs27 29 2 rfl).trans ((Gs25 29 2 rfl).trans (h_upo us23 rfl 2))))) ((h_upg us30 rfl).trans ((funext (fun j => Gs29 30 j rfl)).trans ((funext (fun j => Gs27 30 j rfl)).trans ((funext (fun j => Gs25 30 j rfl)).trans (h_upg us23 rfl))))) ((h_upg us30 rfl).trans ((funext (fun j => Gs29 31 j rfl)).trans ((funext (fun j => Gs27 31 j rfl)).trans ((funext (fun j => Gs25 31 j rfl)).trans (h_upg us23 rfl))))) (fun j _ => congrFun ((h_upg us30 rfl).trans ((funext (fun j => Gs29 32 j rfl)).trans ((funext (fun j => Gs27 32 j rfl)).trans ((funext (fun j => Gs25 32 j rfl)).trans (h_upg us23 rfl))))) j) ((h_upg us30 rfl).trans ((funext (fun j => Gs29 33 j rfl)).trans ((funext (fun j => Gs27 33 j rfl)).trans ((funext (fun j => Gs25 33 j rfl)).trans (h_upg us23 rfl))))) ((h_upg us30 rfl).trans ((funext (fun j => Gs29 35 j rfl)).trans ((funext (fun j => Gs27 35 j rfl)).trans ((funext (fun j => Gs25 35 j rfl)).trans (h_upg us23 rfl)))))) (by have ew : z31 = r28 := h_ieq.mpr (by have e1 := hz31; have e2 := hr28; have e3 := h_upv us30; omega); have gq := ps33_0; rw [ew] at gq; rw [show s30 91 = σ 91 from ((h_upg us30 rfl).trans ((funext (fun j => Gs29 91 j rfl)).trans ((funext (fun j => Gs27 91 j rfl)).trans ((funext (fun j => Gs25 91 j rfl)).trans (h_upg us23 rfl))))).trans (funext (fun j => F0_ 91 j rfl)), show s30 92 = σ 92 from ((h_upg us30 rfl).trans ((funext (fun j => Gs29 92 j rfl)).trans ((funext (fun j => Gs27 92 j rfl)).trans ((funext (fun j => Gs25 92 j rfl)).trans (h_upg us23 rfl))))).trans (funext (fun j => F0_ 92 j rfl)), show s30 90 2 = σ 90 2 from ((h_upo us30 rfl 2).trans ((Gs29 90 2 rfl).trans ((Gs27 90 2 rfl).trans ((Gs25 90 2 rfl).trans (h_upo us23 rfl 2))))).trans (F0_ 90 2 rfl)] at gq; exact g_iv_y ex1 (by omega) (fun k w k0 k1 z => ⟨z.1, (congrFun (rfl : s30 97 = s30 97) k).trans ((h_upd us30 (by omega)).trans ((congrFun ((funext (fun j => Gs29 97 j rfl)).trans ((funext (fun j => Gs27 97 j rfl)).trans ((funext (fun j => Gs25 97 j rfl)).trans (h_upg us23 rfl)))) k).trans z.2))⟩) (decide_eq_true (by omega)) ⟨⟨s27, s27 80, s27 81, (g_ct3.e ex0 ((Gs27 23 8 rfl).trans ((Gs25 23 8 rfl).trans (h_upo us23 rfl 8))) ((Gs27 23 9 rfl).trans ((Gs25 23 9 rfl).trans (h_upo us23 rfl 9))) ((Gs27 23 10 rfl).trans ((Gs25 23 10 rfl).trans (h_upo us23 rfl 10))) ((funext (fun j => Gs27 24 j rfl)).trans ((funext (fun j => Gs25 24 j rfl)).trans (h_upg us23 rfl))) (fun j hj => (congrFun ((funext (fun j => Gs27 25 j rfl)).trans (funext (fun j => Gs25 25 j rfl))) j).trans (h_upd us23 hj)) ((Gs27 26 2 rfl).trans ((Gs25 26 2 rfl).trans (h_upo us23 rfl 2))) ((funext (fun j => Gs27 27 j rfl)).trans ((funext (fun j => Gs25 27 j rfl)).trans (h_upg us23 rfl))) ((funext (fun j => Gs27 28 j rfl)).trans ((funext (fun j => Gs25 28 j rfl)).trans (h_upg us23 rfl))) ((Gs27 29 2 rfl).trans ((Gs25 29 2 rfl).trans (h_upo us23 rfl 2))) ((funext (fun j => Gs27 30 j rfl)).trans ((funext (fun j => Gs25 30 j rfl)).trans (h_upg us23 rfl))) ((funext (fun j => Gs27 31 j rfl)).trans ((funext (fun j => Gs25 31 j rfl)).trans (h_upg us23 rfl))) (fun j _ => congrFun ((funext (fun j => Gs27 32 j rfl)).trans ((funext (fun j => Gs25 32 j rfl)).trans (h_upg us23 rfl))) j) ((funext (fun j => Gs27 33 j rfl)).trans ((funext (fun j => Gs25 33 j rfl)).trans (h_upg us23 rfl))) ((funext (fun j => Gs27 35 j rfl)).trans ((funext (fun j => Gs25 35 j rfl)).trans (h_upg us23 rfl)))), (fun _ => (congrFun ((funext (fun j => Gs27 25 j rfl)).trans (funext (fun j => Gs25 25 j rfl))) a0).trans ((h_upv us23).trans (by first | rw [if_pos (by omega)] | rw [if_neg (by omega)]))), fun z => absurd z (by omega), (g_DX_f (g_DX_t ps25_0 ((Gs27 23 8 rfl).trans (Gs25 23 8 rfl)).symm ((funext (fun j => Gs27 25 j rfl)).trans (funext (fun j => Gs25 25 j rfl))).symm ((funext (fun j => Gs27 24 j rfl)).trans (funext (fun j => Gs25 24 j rfl))).symm ((Gs27 26 2 rfl).trans (Gs25 26 2 rfl)).symm ((funext (fun j => Gs27 27 j rfl)).trans (funext (fun j => Gs25 27 j rfl))).symm ((funext (fun j => Gs27 28 j rfl)).trans (funext (fun j => Gs25 28 j rfl))).symm) (funext (fun j => Gs27 80 j rfl))), (g_FX_t ps25_2 ((Gs27 23 8 rfl).trans (Gs25 23 8 rfl)).symm ((funext (fun j => Gs27 30 j rfl)).trans (funext (fun j => Gs25 30 j rfl))).symm ((funext (fun j => Gs27 31 j rfl)).trans (funext (fun j => Gs25 31 j rfl))).symm ((Gs27 29 2 rfl).trans (Gs25 29 2 rfl)).symm (funext (fun j => Gs27 81 j rfl))), (g_run_c ps29_0 (g_ct3.lk (g_ct3.e ex0 ((Gs27 23 8 rfl).trans ((Gs25 23 8 rfl).trans (h_upo us23 rfl 8))) ((Gs27 23 9 rfl).trans ((Gs25 23 9 rfl).trans (h_upo us23 rfl 9))) ((Gs27 23 10 rfl).trans ((Gs25 23 10 rfl).trans (h_upo us23 rfl 10))) ((funext (fun j => Gs27 24 j rfl)).trans ((funext (fun j => Gs25 24 j rfl)).trans (h_upg us23 rfl))) (fun j hj => (congrFun ((funext (fun j => Gs27 25 j rfl)).trans (funext (fun j => Gs25 25 j rfl))) j).trans (h_upd us23 hj)) ((Gs27 26 2 rfl).trans ((Gs25 26 2 rfl).trans (h_upo us23 rfl 2))) ((funext (fun j => Gs27 27 j rfl)).trans ((funext (fun j => Gs25 27 j rfl)).trans (h_upg us23 rfl))) ((funext (fun j => Gs27 28 j rfl)).trans ((funext (fun j => Gs25 28 j rfl)).trans (h_upg us23 rfl))) ((Gs27 29 2 rfl).trans ((Gs25 29 2 rfl).trans (h_upo us23 rfl 2))) ((funext (fun j => Gs27 30 j rfl)).trans ((funext (fun j => Gs25 30 j rfl)).trans (h_upg us23 rfl))) ((funext (fun j => Gs27 31 j rfl)).trans ((funext (fun j => Gs25 31 j rfl)).trans (h_upg us23 rfl))) (fun j _ => congrFun ((funext (fun j => Gs27 32 j rfl)).trans ((funext (fun j => Gs25 32 j rfl)).trans (h_upg us23 rfl))) j) ((funext (fun j => Gs27 33 j rfl)).trans ((funext (fun j => Gs25 33 j rfl)).trans (h_upg us23 rfl))) ((funext (fun j => Gs27 35 j rfl)).trans ((funext (fun j => Gs25 35 j rfl)).trans (h_upg us23 rfl)))) hI pr0) (g_ct3.pl (g_ct3.e ex0 ((Gs27 23 8 rfl).trans ((Gs25 23 8 rfl).trans (h_upo us23 rfl 8))) ((Gs27 23 9 rfl).trans ((Gs25 23 9 rfl).trans (h_upo us23 rfl 9))) ((Gs27 23 10 rfl).trans ((Gs25 23 10 rfl).trans (h_upo us23 rfl 10))) ((funext (fun j => Gs27 24 j rfl)).trans ((funext (fun j => Gs25 24 j rfl)).trans (h_upg us23 rfl))) (fun j hj => (congrFun ((funext (fun j => Gs27 25 j rfl)).trans (funext (fun j => Gs25 25 j rfl))) j).trans (h_upd us23 hj)) ((Gs27 26 2 rfl).trans ((Gs25 26 2 rfl).trans (h_upo us23 rfl 2))) ((funext (fun j => Gs27 27 j rfl)).trans ((funext (fun j => Gs25 27 j rfl)).trans (h_upg us23 rfl))) ((funext (fun j => Gs27 28 j rfl)).trans ((funext (fun j => Gs25 28 j rfl)).trans (h_upg us23 rfl))) ((Gs27 29 2 rfl).trans ((Gs25 29 2 rfl).trans (h_upo us23 rfl 2))) ((funext (fun j => Gs27 30 j rfl)).trans ((funext (fun j => Gs25 30 j rfl)).trans (h_upg us23 rfl))) ((funext (fun j => Gs27 31 j rfl)).trans ((funext (fun j => Gs25 31 j rfl)).trans (h_upg us23 rfl))) (fun j _ => congrFun ((funext (fun j => Gs27 32 j rfl)).trans ((funext (fun j => Gs25 32 j rfl)).trans (h_upg us23 rfl))) j) ((funext (fun j => Gs27 33 j rfl)).trans ((funext (fun j => Gs25 33 j rfl)).trans (h_upg us23 rfl))) ((funext (fun j => Gs27 35 j rfl)).trans ((funext (fun j => Gs25 35 j rfl)).trans (h_upg us23 rfl)))) hI pr1)).2⟩, ((congrFun (rfl : s30 97 = s30 97) b3).trans ((h_upv us30).trans hr28.symm))⟩ (g_if_y gq (by omega)) (g_or_of hz37 hz36 hy3)) (by omega))
set_option maxHeartbeats 100000000 in
set_option maxHeartbeats 100000000 in
theorem n_tryX {ns : Nat} (σ : h_S) (hI : h_I σ) (x0 : Int32) (a0 : Int) (hx0 : x0.toInt = a0) (ra0 : 0 ≤ a0 ∧ a0 ≤ 5) (pr0 : g_lk' (σ 10 8) (σ 10 9) (σ 20)) (pr1 : ∀ i, 0 ≤ i → i < σ 10 10 → 0 ≤ σ 22 i ∧ σ 22 i / 10 < σ 10 8 ∧ σ 22 i % 10 < σ 10 9) {Q : Option Value → h_S → Prop} (kk : ∀ (r : Int32) (b : Int) (hb : r.toInt = b) (τ : h_S), h_I τ → h_F (k_in kf_n_tryX) τ σ → (g_iv (fun k w => g_oX a0 (-100) σ (if k = 6 then -4 else k) w ∧ τ 97 k = w.toInt) (fun k => decide (k < a0 ∨ k = 6)) (fun w => g_ag (σ 91) (σ 92) w (σ 90 2).toNat) 7 r) → (r.toInt = b) → Q (some (.int r)) τ) : h_T g_P (g_Y ns) 135 0 [(0, .ref 9), (1, .int x0)] [] σ Q := by
  have F00 : h_F (k_in kf_n_tryX) σ σ := h_F.rf
  refine h_aload_n (pc' := 1) rfl rfl rfl ?_
  refine h_getR (pc' := 4) rfl rfl rfl rfl rfl ?_
  refine h_aload_n (pc' := 5) rfl rfl rfl ?_
  refine h_getR (pc' := 8) rfl rfl rfl rfl rfl ?_
  refine h_call (sp := false) (pc' := 11) (M := [(0, .ref 23), (1, .ref 10)]) rfl rfl rfl rfl rfl rfl rfl rfl ?_
  refine n_copy_23_10 _ hI  (fun s2 Is2 Gs2 ps2_0 => h_Kn ?_)
  have Fs2 := (Gs2.mono (B := kf_n_tryX) rfl).tr F00
  have es2_0 : s2 98 13 = σ 98 13 := (Gs2 98 13 rfl).trans rfl
  refine h_iconst (pc' := 12) (x := (Int32.ofInt 0)) rfl rfl rfl ?_
  refine h_istore_n (pc' := 13) (M := [(2, .int (Int32.ofInt 0)), (0, .ref 9), (1, .int x0)]) rfl rfl rfl rfl ?_
  refine h_iconst (pc' := 14) (x := (Int32.ofInt 0)) rfl rfl rfl ?_
  refine h_istore_n (pc' := 15) (M := [(3, .int (Int32.ofInt 0)), (2, .int (Int32.ofInt 0)), (0, .ref 9), (1, .int x0)]) rfl rfl rfl rfl ?_
  exact h_wk [(0, .ref 9), (1, .int x0), (2, .int (Int32.ofInt 0)), (3, .int (Int32.ofInt 0))] ⟨rfl, rfl, rfl, rfl, trivial⟩ ((n_tryX_l ns σ hI x0 a0 hx0 ra0 pr0 pr1 kk 1000000000000) _ Is2 Fs2 (Int32.ofInt 0) _ ci_0 (Int32.ofInt 0) _ ci_0 (by omega) (g_ct3.of ps2_0) g_iv_0 (by omega))
def kf_n_parM : List Nat := [100374, 100375, 101891, 101892, 108543, 112639]
set_option maxHeartbeats 100000000 in
set_option maxHeartbeats 100000000 in
theorem n_parM_l (ns : Nat) (σ : h_S) (hI : h_I σ) (x0 : Int32) (a0 : Int) (hx0 : x0.toInt = a0) (ra0 : 0 ≤ a0 ∧ a0 ≤ 5) (pr0 : ∀ i, 0 ≤ i → i < σ 99 43 → 0 ≤ σ 99 (35 + i) ∧ σ 99 (35 + i) / 10 < 6 ∧ σ 99 (35 + i) % 10 < 3) {Q : Option Value → h_S → Prop} (kk : ∀ (r : Int32) (b : Int) (hb : r.toInt = b) (τ : h_S), h_I τ → h_F (k_in kf_n_parM) τ σ → (g_iv (fun k w => g_oM a0 (-100) σ (if k = 6 then 0 else k + 1) w ∧ τ 109 k = w.toInt) (fun k => decide (k < a0 ∨ k = 6)) (fun w => g_ag (fun k => σ 108 (2 * k)) (fun k => σ 108 (2 * k + 1)) w (σ 98 29).toNat) 7 r) → (r.toInt = b) → Q (some (.int r)) τ) : ∀ n : Nat, (∀ (s0 : h_S), h_I s0 → h_F (k_in kf_n_parM) s0 σ → ∀ (y2 : Int32) (b2 : Int), y2.toInt = b2 → ∀ (y3 : Int32) (b3 : Int), y3.toInt = b3 → (0 ≤ b3 ∧ b3 ≤ 7) → (g_iv (fun k w => g_oM a0 (-100) σ (if k = 6 then 0 else k + 1) w ∧ s0 109 k = w.toInt) (fun k => decide (k < a0 ∨ k = 6)) (fun w => g_ag (fun k => σ 108 (2 * k)) (fun k => σ 108 (2 * k + 1)) w (σ 98 29).toNat) b3 y2) → (7 + 1 - b3) * 1000000 + 1000000000 ≤ (n : Int) → h_T g_P (g_Y ns) 212 4 [(0, .ref 98), (1, .int x0), (2, .int y2), (3, .int y3)] [] s0 Q) := by
  intro n
  induction n with
  | zero => exact by intro s0 I0 F0_ y2 b2 hy2 y3 b3 hy3 ry3 ex0 hm; exfalso; omega
  | succ n ih =>
    intro s0 I0 F0_ y2 b2 hy2 y3 b3 hy3 ry3 ex0 hm
    refine h_iload_n (pc' := 5) rfl rfl rfl ?_
    refine h_bipush (pc' := 7) (x := (Int32.ofInt 6)) rfl rfl cb_6 ?_
    refine h_cgt (tg := 93) (pc' := 10) rfl rfl rfl hy3 ci_6 (fun c1 => ?_) (fun c1 => ?_)
    · refine h_iload_n (pc' := 94) rfl rfl rfl ?_
      exact h_iret rfl rfl (kk _ _ hy2 _ I0 F0_ (by rw [show b3 = 7 by omega] at ex0; exact ex0) hy2)
    · refine h_iload_n (pc' := 11) rfl rfl rfl ?_
      refine h_iload_n (pc' := 12) rfl rfl rfl ?_
      refine h_clt (tg := 21) (pc' := 15) rfl rfl rfl hy3 hx0 (fun c2 => ?_) (fun c2 => ?_)
      · refine h_aload_n (pc' := 22) rfl rfl rfl ?_
        refine h_iconst (pc' := 23) (x := (Int32.ofInt 0)) rfl rfl rfl ?_
        refine h_sipush (pc' := 26) (x := (Int32.ofInt 176)) rfl rfl cs_176 ?_
        refine h_call (sp := false) (pc' := 29) (M := [(0, .ref 98), (1, .int (Int32.ofInt 0)), (2, .int (Int32.ofInt 176))]) rfl rfl rfl rfl rfl rfl rfl rfl ?_
        refine n_copies_0_176 _ I0   (fun s4 Is4 Gs4 ps4_0 => h_Kn ?_)
        have Fs4 := (Gs4.mono (B := kf_n_parM) rfl).tr F0_
        have es4_0 : s4 98 13 = s0 98 13 := (Gs4 98 13 rfl).trans rfl
        refine h_aload_n (pc' := 30) rfl rfl rfl ?_
        refine h_getR (pc' := 33) rfl rfl rfl rfl rfl ?_
        refine h_sipush (pc' := 36) (x := (Int32.ofInt 182)) rfl rfl cs_182 ?_
        refine h_iload_n (pc' := 37) rfl rfl rfl ?_
        refine h_iadd (pc' := 38) rfl rfl ci_182 hx0 rfl (by omega) (by omega) (fun z5 hz5 => ?_)
        refine h_iload_n (pc' := 39) rfl rfl rfl ?_
        refine h_bipush (pc' := 41) (x := (Int32.ofInt 6)) rfl rfl cb_6 ?_
        refine h_cne (tg := 48) (pc' := 44) rfl rfl rfl hy3 ci_6 (fun c6 => ?_) (fun c6 => absurd c6 (by omega))
        refine h_iload_n (pc' := 49) rfl rfl rfl ?_
        refine h_iconst (pc' := 50) (x := (Int32.ofInt 1)) rfl rfl rfl ?_
        refine h_iadd (pc' := 51) rfl rfl hy3 ci_1 rfl (by omega) (by omega) (fun z7 hz7 => ?_)
        refine h_iast (pc' := 52) rfl rfl rfl rfl hz5 (by omega) (by omega) hz7 (h_fgt (E := fun s => s 98 13 = s0 98 13 ∧ s = h_up s4 99 (182 + a0) (b3 + 1)) _ (ip_99_1 Is4 (by omega) (by omega)) (Fs4.up (k_ipg (p := 4) rfl rfl (by omega))) ⟨es4_0, rfl⟩ (fun s8 Is8 Fs8 (es8 : s8 98 13 = s0 98 13 ∧ s8 = h_up s4 99 (182 + a0) (b3 + 1)) => ?_))
        have us8 := es8.2
        refine h_aload_n (pc' := 53) rfl rfl rfl ?_
        refine h_sipush (pc' := 56) (x := (Int32.ofInt 176)) rfl rfl cs_176 ?_
        refine h_iconst (pc' := 57) (x := (Int32.ofInt 0)) rfl rfl rfl ?_
        refine h_call (sp := false) (pc' := 60) (M := [(0, .ref 98), (1, .int (Int32.ofInt 176)), (2, .int (Int32.ofInt 0))]) rfl rfl rfl rfl rfl rfl rfl rfl ?_
        refine n_plan176 _ Is8  (Int32.ofInt 0) _ ci_0 (fun i a b => by rw [show s8 99 43 = σ 99 43 from ((((h_upd us8 (by omega)).trans (Gs4.no (q := 99) (l := 0) (u := 131) (j := 43) rfl (by omega) (by omega)))).trans (F0_.no (q := 99) (l := 0) (u := 131) (j := 43) rfl (by omega) (by omega)))] at b; have tb := ty_99_10 hI 43 (by omega); rw [show s8 99 (35 + i) = σ 99 (35 + i) from ((((h_upd us8 (by omega)).trans (Gs4.no (q := 99) (l := 0) (u := 131) (j := 35 + i) rfl (by omega) (by omega)))).trans (F0_.no (q := 99) (l := 0) (u := 131) (j := 35 + i) rfl (by omega) (by omega)))]; exact pr0 i a b) (fun s10 Is10 Gs10 ps10_0 ps10_1 => h_Kn ?_)
        have Fs10 := (Gs10.mono (B := kf_n_parM) rfl).tr Fs8
        have es10_0 : s10 98 13 = s0 98 13 := (Gs10 98 13 rfl).trans es8.1
        refine h_aload_n (pc' := 61) rfl rfl rfl ?_
        refine h_getR (pc' := 64) rfl rfl rfl rfl rfl ?_
        refine h_iload_n (pc' := 65) rfl rfl rfl ?_
        refine h_aload_n (pc' := 66) rfl rfl rfl ?_
        refine h_getI (pc' := 69) (v := s10 98 23) rfl rfl rfl rfl rfl rfl (fun z11 hz11 => ?_)
        have tz11 := tf_98_23 Is10
        refine h_iast (pc' := 70) rfl rfl rfl rfl hy3 (by omega) (by omega) hz11 (h_fgt (E := fun s => s 98 13 = s0 98 13 ∧ s = h_up s10 109 b3 (s10 98 23)) _ (in_109 Is10 (h_rgv hz11)) (Fs10.up rfl) ⟨es10_0, rfl⟩ (fun s12 Is12 Fs12 (es12 : s12 98 13 = s0 98 13 ∧ s12 = h_up s10 109 b3 (s10 98 23)) => ?_))
        have us12 := es12.2
        refine h_iload_n (pc' := 71) rfl rfl rfl ?_
        refine h_aload_n (pc' := 72) rfl rfl rfl ?_
        refine h_call (sp := false) (pc' := 75) (M := [(0, .ref 98)]) rfl rfl rfl rfl rfl rfl rfl rfl ?_
        refine n_agM _ Is12  (fun r13 br13 hr13 tr13 ps14_0 => h_Kv ?_)
        refine h_zeq (tg := 84) (pc' := 78) rfl rfl rfl hr13 (fun c15 => ?_) (fun c15 => ?_)
        · refine h_iconst (pc' := 85) (x := (Int32.ofInt 0)) rfl rfl rfl ?_
          refine h_ior (pc' := 86) rfl rfl (fun z16 hz16 => ?_)
          refine h_istore_n (pc' := 87) (M := [(2, .int z16), (0, .ref 98), (1, .int x0), (3, .int y3)]) rfl rfl rfl rfl ?_
          refine h_iinc (pc' := 90) (M := fun z17 => [(3, .int z17), (2, .int z16), (0, .ref 98), (1, .int x0)]) rfl rfl rfl rfl hy3 ci_1 rfl (by omega) (by omega) (fun _ => rfl) (fun z17 hz17 => ?_)
          refine h_goto (pc' := 4) rfl rfl ?_
          exact h_wk [(0, .ref 98), (1, .int x0), (2, .int z16), (3, .int z17)] ⟨rfl, rfl, rfl, rfl, trivial⟩ (ih _ Is12 Fs12 z16 _ rfl z17 _ hz17 (by omega) (by have gq := ps14_0; rw [show s12 98 23 = s10 98 23 from (h_upo us12 rfl 23), show s12 108 = σ 108 from ((h_upg us12 rfl).trans ((funext (fun j => Gs10 108 j rfl)).trans ((h_upg us8 rfl).trans (funext (fun j => Gs4 108 j rfl))))).trans (funext (fun j => F0_ 108 j rfl)), show s12 98 29 = σ 98 29 from ((h_upo us12 rfl 29).trans ((Gs10 98 29 rfl).trans ((h_upo us8 rfl 29).trans (Gs4 98 29 rfl)))).trans (F0_ 98 29 rfl)] at gq; exact g_iv_n (r := (Int32.ofInt (s10 98 23))) ex0 (by omega) (fun k w k0 k1 z => ⟨z.1, (congrFun (rfl : s12 109 = s12 109) k).trans ((h_upd us12 (by omega)).trans ((congrFun ((funext (fun j => Gs10 109 j rfl)).trans ((h_upg us8 rfl).trans (funext (fun j => Gs4 109 j rfl)))) k).trans z.2))⟩) (decide_eq_true (by omega)) ⟨⟨s8, s10, ⟨(((h_upo us8 rfl 1).trans (Gs4 98 1 rfl)).trans (F0_ 98 1 rfl)), (((h_upo us8 rfl 2).trans (Gs4 98 2 rfl)).trans (F0_ 98 2 rfl)), (((h_upg us8 rfl).trans (funext (fun j => Gs4 100 j rfl))).trans (funext (fun j => F0_ 100 j rfl))), fun j x y => ((((h_upd us8 (by omega)).trans (Gs4.no (q := 99) (l := 0) (u := 131) (j := j) rfl (by omega) (by omega)))).trans (F0_.no (q := 99) (l := 0) (u := 131) (j := j) rfl (by omega) (by omega))), (fun j x y z z2 => (h_upd us8 (by omega)).trans ((ps4_0 j x y).trans (by rw [show (0 : Int) + j = j by omega]; exact (F0_.no (q := 99) (l := 0) (u := 131) (j := j) rfl (by omega) (by omega)))))⟩, (fun _ => ((congrArg (s8 99) (show 176 + (6 + a0) = 182 + a0 by omega)).trans ((h_upv us8).trans (by first | rfl | rw [if_pos (by omega)] | (rw [if_neg (by omega)]))))), (fun z => absurd z (by omega)), ps10_0, ps10_1, rfl⟩, ((congrFun (rfl : s12 109 = s12 109) b3).trans ((h_upv us12).trans (by have tt := tf_98_23 Is10; exact (g_oft tt).symm)))⟩ (g_if_n gq (by omega)) (g_or0 hz16)) (by omega))
        · refine h_iconst (pc' := 79) (x := (Int32.ofInt 1)) rfl rfl rfl ?_
          refine h_iload_n (pc' := 80) rfl rfl rfl ?_
          refine h_shl1 (pc' := 81) rfl rfl ci_1 hy3 (by omega) (by omega) (fun z18 hz18 vz18 => ?_)
          refine h_goto (pc' := 85) rfl rfl ?_
          refine h_ior (pc' := 86) rfl rfl (fun z19 hz19 => ?_)
          refine h_istore_n (pc' := 87) (M := [(2, .int z19), (0, .ref 98), (1, .int x0), (3, .int y3)]) rfl rfl rfl rfl ?_
          refine h_iinc (pc' := 90) (M := fun z20 => [(3, .int z20), (2, .int z19), (0, .ref 98), (1, .int x0)]) rfl rfl rfl rfl hy3 ci_1 rfl (by omega) (by omega) (fun _ => rfl) (fun z20 hz20 => ?_)
          refine h_goto (pc' := 4) rfl rfl ?_
          exact h_wk [(0, .ref 98), (1, .int x0), (2, .int z19), (3, .int z20)] ⟨rfl, rfl, rfl, rfl, trivial⟩ (ih _ Is12 Fs12 z19 _ rfl z20 _ hz20 (by omega) (by have gq := ps14_0; rw [show s12 98 23 = s10 98 23 from (h_upo us12 rfl 23), show s12 108 = σ 108 from ((h_upg us12 rfl).trans ((funext (fun j => Gs10 108 j rfl)).trans ((h_upg us8 rfl).trans (funext (fun j => Gs4 108 j rfl))))).trans (funext (fun j => F0_ 108 j rfl)), show s12 98 29 = σ 98 29 from ((h_upo us12 rfl 29).trans ((Gs10 98 29 rfl).trans ((h_upo us8 rfl 29).trans (Gs4 98 29 rfl)))).trans (F0_ 98 29 rfl)] at gq; exact g_iv_y (r := (Int32.ofInt (s10 98 23))) ex0 (by omega) (fun k w k0 k1 z => ⟨z.1, (congrFun (rfl : s12 109 = s12 109) k).trans ((h_upd us12 (by omega)).trans ((congrFun ((funext (fun j => Gs10 109 j rfl)).trans ((h_upg us8 rfl).trans (funext (fun j => Gs4 109 j rfl)))) k).trans z.2))⟩) (decide_eq_true (by omega)) ⟨⟨s8, s10, ⟨(((h_upo us8 rfl 1).trans (Gs4 98 1 rfl)).trans (F0_ 98 1 rfl)), (((h_upo us8 rfl 2).trans (Gs4 98 2 rfl)).trans (F0_ 98 2 rfl)), (((h_upg us8 rfl).trans (funext (fun j => Gs4 100 j rfl))).trans (funext (fun j => F0_ 100 j rfl))), fun j x y => ((((h_upd us8 (by omega)).trans (Gs4.no (q := 99) (l := 0) (u := 131) (j := j) rfl (by omega) (by omega)))).trans (F0_.no (q := 99) (l := 0) (u := 131) (j := j) rfl (by omega) (by omega))), (fun j x y z z2 => (h_upd us8 (by omega)).trans ((ps4_0 j x y).trans (by rw [show (0 : Int) + j = j by omega]; exact (F0_.no (q := 99) (l := 0) (u := 131) (j := j) rfl (by omega) (by omega)))))⟩, (fun _ => ((congrArg (s8 99) (show 176 + (6 + a0) = 182 + a0 by omega)).trans ((h_upv us8).trans (by first | rfl | rw [if_pos (by omega)] | (rw [if_neg (by omega)]))))), (fun z => absurd z (by omega)), ps10_0, ps10_1, rfl⟩, ((congrFun (rfl : s12 109 = s12 109) b3).trans ((h_upv us12).trans (by have tt := tf_98_23 Is10; exact (g_oft tt).symm)))⟩ (g_if_y gq (by omega)) (g_or_of hz19 hz18 hy3)) (by omega))
      · refine h_iload_n (pc' := 16) rfl rfl rfl ?_
        refine h_bipush (pc' := 18) (x := (Int32.ofInt 6)) rfl rfl cb_6 ?_
        refine h_cne (tg := 87) (pc' := 21) rfl rfl rfl hy3 ci_6 (fun c21 => ?_) (fun c21 => ?_)
        · refine h_iinc (pc' := 90) (M := fun z22 => [(3, .int z22), (0, .ref 98), (1, .int x0), (2, .int y2)]) rfl rfl rfl rfl hy3 ci_1 rfl (by omega) (by omega) (fun _ => rfl) (fun z22 hz22 => ?_)
          refine h_goto (pc' := 4) rfl rfl ?_
          exact h_wk [(0, .ref 98), (1, .int x0), (2, .int y2), (3, .int z22)] ⟨rfl, rfl, rfl, rfl, trivial⟩ (ih _ I0 F0_ y2 _ hy2 z22 _ hz22 (by omega) (g_iv_s ex0 (by omega) (fun k w _ _ z => z) (decide_eq_false (by omega)) rfl) (by omega))
        · refine h_aload_n (pc' := 22) rfl rfl rfl ?_
          refine h_iconst (pc' := 23) (x := (Int32.ofInt 0)) rfl rfl rfl ?_
          refine h_sipush (pc' := 26) (x := (Int32.ofInt 176)) rfl rfl cs_176 ?_
          refine h_call (sp := false) (pc' := 29) (M := [(0, .ref 98), (1, .int (Int32.ofInt 0)), (2, .int (Int32.ofInt 176))]) rfl rfl rfl rfl rfl rfl rfl rfl ?_
          refine n_copies_0_176 _ I0   (fun s24 Is24 Gs24 ps24_0 => h_Kn ?_)
          have Fs24 := (Gs24.mono (B := kf_n_parM) rfl).tr F0_
          have es24_0 : s24 98 13 = s0 98 13 := (Gs24 98 13 rfl).trans rfl
          refine h_aload_n (pc' := 30) rfl rfl rfl ?_
          refine h_getR (pc' := 33) rfl rfl rfl rfl rfl ?_
          refine h_sipush (pc' := 36) (x := (Int32.ofInt 182)) rfl rfl cs_182 ?_
          refine h_iload_n (pc' := 37) rfl rfl rfl ?_
          refine h_iadd (pc' := 38) rfl rfl ci_182 hx0 rfl (by omega) (by omega) (fun z25 hz25 => ?_)
          refine h_iload_n (pc' := 39) rfl rfl rfl ?_
          refine h_bipush (pc' := 41) (x := (Int32.ofInt 6)) rfl rfl cb_6 ?_
          refine h_cne (tg := 48) (pc' := 44) rfl rfl rfl hy3 ci_6 (fun c26 => absurd c26 (by omega)) (fun c26 => ?_)
          refine h_iconst (pc' := 45) (x := (Int32.ofInt 0)) rfl rfl rfl ?_
          refine h_goto (pc' := 51) rfl rfl ?_
          refine h_iast (pc' := 52) rfl rfl rfl rfl hz25 (by omega) (by omega) ci_0 (h_fgt (E := fun s => s 98 13 = s0 98 13 ∧ s = h_up s24 99 (182 + a0) 0) _ (ip_99_1 Is24 (by omega) (by omega)) (Fs24.up (k_ipg (p := 4) rfl rfl (by omega))) ⟨es24_0, rfl⟩ (fun s27 Is27 Fs27 (es27 : s27 98 13 = s0 98 13 ∧ s27 = h_up s24 99 (182 + a0) 0) => ?_))
          have us27 := es27.2
          refine h_aload_n (pc' := 53) rfl rfl rfl ?_
          refine h_sipush (pc' := 56) (x := (Int32.ofInt 176)) rfl rfl cs_176 ?_
          refine h_iconst (pc' := 57) (x := (Int32.ofInt 0)) rfl rfl rfl ?_
          refine h_call (sp := false) (pc' := 60) (M := [(0, .ref 98), (1, .int (Int32.ofInt 176)), (2, .int (Int32.ofInt 0))]) rfl rfl rfl rfl rfl rfl rfl rfl ?_
          refine n_plan176 _ Is27  (Int32.ofInt 0) _ ci_0 (fun i a b => by rw [show s27 99 43 = σ 99 43 from ((((h_upd us27 (by omega)).trans (Gs24.no (q := 99) (l := 0) (u := 131) (j := 43) rfl (by omega) (by omega)))).trans (F0_.no (q := 99) (l := 0) (u := 131) (j := 43) rfl (by omega) (by omega)))] at b; have tb := ty_99_10 hI 43 (by omega); rw [show s27 99 (35 + i) = σ 99 (35 + i) from ((((h_upd us27 (by omega)).trans (Gs24.no (q := 99) (l := 0) (u := 131) (j := 35 + i) rfl (by omega) (by omega)))).trans (F0_.no (q := 99) (l := 0) (u := 131) (j := 35 + i) rfl (by omega) (by omega)))]; exact pr0 i a b) (fun s29 Is29 Gs29 ps29_0 ps29_1 => h_Kn ?_)
          have Fs29 := (Gs29.mono (B := kf_n_parM) rfl).tr Fs27
          have es29_0 : s29 98 13 = s0 98 13 := (Gs29 98 13 rfl).trans es27.1
          refine h_aload_n (pc' := 61) rfl rfl rfl ?_
          refine h_getR (pc' := 64) rfl rfl rfl rfl rfl ?_
          refine h_iload_n (pc' := 65) rfl rfl rfl ?_
          refine h_aload_n (pc' := 66) rfl rfl rfl ?_
          refine h_getI (pc' := 69) (v := s29 98 23) rfl rfl rfl rfl rfl rfl (fun z30 hz30 => ?_)
          have tz30 := tf_98_23 Is29
          refine h_iast (pc' := 70) rfl rfl rfl rfl hy3 (by omega) (by omega) hz30 (h_fgt (E := fun s => s 98 13 = s0 98 13 ∧ s = h_up s29 109 b3 (s29 98 23)) _ (in_109 Is29 (h_rgv hz30)) (Fs29.up rfl) ⟨es29_0, rfl⟩ (fun s31 Is31 Fs31 (es31 : s31 98 13 = s0 98 13 ∧ s31 = h_up s29 109 b3 (s29 98 23)) => ?_))
          have us31 := es31.2
          refine h_iload_n (pc' := 71) rfl rfl rfl ?_
          refine h_aload_n (pc' := 72) rfl rfl rfl ?_
          refine h_call (sp := false) (pc' := 75) (M := [(0, .ref 98)]) rfl rfl rfl rfl rfl rfl rfl rfl ?_
          refine n_agM _ Is31  (fun r32 br32 hr32 tr32 ps33_0 => h_Kv ?_)
          refine h_zeq (tg := 84) (pc' := 78) rfl rfl rfl hr32 (fun c34 => ?_) (fun c34 => ?_)
          · refine h_iconst (pc' := 85) (x := (Int32.ofInt 0)) rfl rfl rfl ?_
            refine h_ior (pc' := 86) rfl rfl (fun z35 hz35 => ?_)
            refine h_istore_n (pc' := 87) (M := [(2, .int z35), (0, .ref 98), (1, .int x0), (3, .int y3)]) rfl rfl rfl rfl ?_
            refine h_iinc (pc' := 90) (M := fun z36 => [(3, .int z36), (2, .int z35), (0, .ref 98), (1, .int x0)]) rfl rfl rfl rfl hy3 ci_1 rfl (by omega) (by omega) (fun _ => rfl) (fun z36 hz36 => ?_)
            refine h_goto (pc' := 4) rfl rfl ?_
            exact h_wk [(0, .ref 98), (1, .int x0), (2, .int z35), (3, .int z36)] ⟨rfl, rfl, rfl, rfl, trivial⟩ (ih _ Is31 Fs31 z35 _ rfl z36 _ hz36 (by omega) (by have gq := ps33_0; rw [show s31 98 23 = s29 98 23 from (h_upo us31 rfl 23), show s31 108 = σ 108 from ((h_upg us31 rfl).trans ((funext (fun j => Gs29 108 j rfl)).trans ((h_upg us27 rfl).trans (funext (fun j => Gs24 108 j rfl))))).trans (funext (fun j => F0_ 108 j rfl)), show s31 98 29 = σ 98 29 from ((h_upo us31 rfl 29).trans ((Gs29 98 29 rfl).trans ((h_upo us27 rfl 29).trans (Gs24 98 29 rfl)))).trans (F0_ 98 29 rfl)] at gq; exact g_iv_n (r := (Int32.ofInt (s29 98 23))) ex0 (by omega) (fun k w k0 k1 z => ⟨z.1, (congrFun (rfl : s31 109 = s31 109) k).trans ((h_upd us31 (by omega)).trans ((congrFun ((funext (fun j => Gs29 109 j rfl)).trans ((h_upg us27 rfl).trans (funext (fun j => Gs24 109 j rfl)))) k).trans z.2))⟩) (decide_eq_true (by omega)) ⟨⟨s27, s29, ⟨(((h_upo us27 rfl 1).trans (Gs24 98 1 rfl)).trans (F0_ 98 1 rfl)), (((h_upo us27 rfl 2).trans (Gs24 98 2 rfl)).trans (F0_ 98 2 rfl)), (((h_upg us27 rfl).trans (funext (fun j => Gs24 100 j rfl))).trans (funext (fun j => F0_ 100 j rfl))), fun j x y => ((((h_upd us27 (by omega)).trans (Gs24.no (q := 99) (l := 0) (u := 131) (j := j) rfl (by omega) (by omega)))).trans (F0_.no (q := 99) (l := 0) (u := 131) (j := j) rfl (by omega) (by omega))), (fun j x y z z2 => (h_upd us27 (by omega)).trans ((ps24_0 j x y).trans (by rw [show (0 : Int) + j = j by omega]; exact (F0_.no (q := 99) (l := 0) (u := 131) (j := j) rfl (by omega) (by omega)))))⟩, (fun _ => ((congrArg (s27 99) (show 176 + (6 + a0) = 182 + a0 by omega)).trans ((h_upv us27).trans (by first | rfl | rw [if_pos (by omega)] | (rw [if_neg (by omega)]))))), (fun z => absurd z (by omega)), ps29_0, ps29_1, rfl⟩, ((congrFun (rfl : s31 109 = s31 109) b3).trans ((h_upv us31).trans (by have tt := tf_98_23 Is29; exact (g_oft tt).symm)))⟩ (g_if_n gq (by omega)) (g_or0 hz35)) (by omega))
          · refine h_iconst (pc' := 79) (x := (Int32.ofInt 1)) rfl rfl rfl ?_
            refine h_iload_n (pc' := 80) rfl rfl rfl ?_
            refine h_shl1 (pc' := 81) rfl rfl ci_1 hy3 (by omega) (by omega) (fun z37 hz37 vz37 => ?_)
            refine h_goto (pc' := 85) rfl rfl ?_
            refine h_ior (pc' := 86) rfl rfl (fun z38 hz38 => ?_)
            refine h_istore_n (pc' := 87) (M := [(2, .int z38), (0, .ref 98), (1, .int x0), (3, .int y3)]) rfl rfl rfl rfl ?_
            refine h_iinc (pc' := 90) (M := fun z39 => [(3, .int z39), (2, .int z38), (0, .ref 98), (1, .int x0)]) rfl rfl rfl rfl hy3 ci_1 rfl (by omega) (by omega) (fun _ => rfl) (fun z39 hz39 => ?_)
            refine h_goto (pc' := 4) rfl rfl ?_
            exact h_wk [(0, .ref 98), (1, .int x0), (2, .int z38), (3, .int z39)] ⟨rfl, rfl, rfl, rfl, trivial⟩ (ih _ Is31 Fs31 z38 _ rfl z39 _ hz39 (by omega) (by have gq := ps33_0; rw [show s31 98 23 = s29 98 23 from (h_upo us31 rfl 23), show s31 108 = σ 108 from ((h_upg us31 rfl).trans ((funext (fun j => Gs29 108 j rfl)).trans ((h_upg us27 rfl).trans (funext (fun j => Gs24 108 j rfl))))).trans (funext (fun j => F0_ 108 j rfl)), show s31 98 29 = σ 98 29 from ((h_upo us31 rfl 29).trans ((Gs29 98 29 rfl).trans ((h_upo us27 rfl 29).trans (Gs24 98 29 rfl)))).trans (F0_ 98 29 rfl)] at gq; exact g_iv_y (r := (Int32.ofInt (s29 98 23))) ex0 (by omega) (fun k w k0 k1 z => ⟨z.1, (congrFun (rfl : s31 109 = s31 109) k).trans ((h_upd us31 (by omega)).trans ((congrFun ((funext (fun j => Gs29 109 j rfl)).trans ((h_upg us27 rfl).trans (funext (fun j => Gs24 109 j rfl)))) k).trans z.2))⟩) (decide_eq_true (by omega)) ⟨⟨s27, s29, ⟨(((h_upo us27 rfl 1).trans (Gs24 98 1 rfl)).trans (F0_ 98 1 rfl)), (((h_upo us27 rfl 2).trans (Gs24 98 2 rfl)).trans (F0_ 98 2 rfl)), (((h_upg us27 rfl).trans (funext (fun j => Gs24 100 j rfl))).trans (funext (fun j => F0_ 100 j rfl))), fun j x y => ((((h_upd us27 (by omega)).trans (Gs24.no (q := 99) (l := 0) (u := 131) (j := j) rfl (by omega) (by omega)))).trans (F0_.no (q := 99) (l := 0) (u := 131) (j := j) rfl (by omega) (by omega))), (fun j x y z z2 => (h_upd us27 (by omega)).trans ((ps24_0 j x y).trans (by rw [show (0 : Int) + j = j by omega]; exact (F0_.no (q := 99) (l := 0) (u := 131) (j := j) rfl (by omega) (by omega)))))⟩, (fun _ => ((congrArg (s27 99) (show 176 + (6 + a0) = 182 + a0 by omega)).trans ((h_upv us27).trans (by first | rfl | rw [if_pos (by omega)] | (rw [if_neg (by omega)]))))), (fun z => absurd z (by omega)), ps29_0, ps29_1, rfl⟩, ((congrFun (rfl : s31 109 = s31 109) b3).trans ((h_upv us31).trans (by have tt := tf_98_23 Is29; exact (g_oft tt).symm)))⟩ (g_if_y gq (by omega)) (g_or_of hz38 hz37 hy3)) (by omega))
set_option maxHeartbeats 100000000 in
set_option maxHeartbeats 100000000 in
theorem n_parM {ns : Nat} (σ : h_S) (hI : h_I σ) (x0 : Int32) (a0 : Int) (hx0 : x0.toInt = a0) (ra0 : 0 ≤ a0 ∧ a0 ≤ 5) (pr0 : ∀ i, 0 ≤ i → i < σ 99 43 → 0 ≤ σ 99 (35 + i) ∧ σ 99 (35 + i) / 10 < 6 ∧ σ 99 (35 + i) % 10 < 3) {Q : Option Value → h_S → Prop} (kk : ∀ (r : Int32) (b : Int) (hb : r.toInt = b) (τ : h_S), h_I τ → h_F (k_in kf_n_parM) τ σ → (g_iv (fun k w => g_oM a0 (-100) σ (if k = 6 then 0 else k + 1) w ∧ τ 109 k = w.toInt) (fun k => decide (k < a0 ∨ k = 6)) (fun w => g_ag (fun k => σ 108 (2 * k)) (fun k => σ 108 (2 * k + 1)) w (σ 98 29).toNat) 7 r) → (r.toInt = b) → Q (some (.int r)) τ) : h_T g_P (g_Y ns) 212 0 [(0, .ref 98), (1, .int x0)] [] σ Q := by
  have F00 : h_F (k_in kf_n_parM) σ σ := h_F.rf
  refine h_iconst (pc' := 1) (x := (Int32.ofInt 0)) rfl rfl rfl ?_
  refine h_istore_n (pc' := 2) (M := [(2, .int (Int32.ofInt 0)), (0, .ref 98), (1, .int x0)]) rfl rfl rfl rfl ?_
  refine h_iconst (pc' := 3) (x := (Int32.ofInt 0)) rfl rfl rfl ?_
  refine h_istore_n (pc' := 4) (M := [(3, .int (Int32.ofInt 0)), (2, .int (Int32.ofInt 0)), (0, .ref 98), (1, .int x0)]) rfl rfl rfl rfl ?_
  exact h_wk [(0, .ref 98), (1, .int x0), (2, .int (Int32.ofInt 0)), (3, .int (Int32.ofInt 0))] ⟨rfl, rfl, rfl, rfl, trivial⟩ ((n_parM_l ns σ hI x0 a0 hx0 ra0 pr0 kk 1000000000000) _ hI F00 (Int32.ofInt 0) _ ci_0 (Int32.ofInt 0) _ ci_0 (by omega) g_iv_0 (by omega))
/-! WHAT WAS SEEN, ON BOTH SIDES -/
def g_WS (s : h_S) : Prop := ∀ k, 0 ≤ k → k < s 90 2 → s 91 k = s 108 (2 * k) ∧ s 92 k = s 108 (2 * k + 1)
theorem g_WS.zero {s : h_S} (h : s 90 2 = 0) : g_WS s := fun k a b => by omega
theorem g_WS.le {s s' : h_S} (h : g_WS s) (hs : s' 90 2 ≤ s 90 2) (e1 : s' 91 = s 91) (e2 : s' 92 = s 92) (e3 : s' 108 = s 108) : g_WS s' := fun k a b => by
  rw [e1, e2, e3]
  exact h k a (by omega)
theorem g_WS.see {s s' : h_S} {i v i' v' e1 e2 e3 e4 : Int} (h : g_WS s) (h91 : s' 91 = g_set (s 91) e1 i) (h92 : s' 92 = g_set (s 92) e2 v) (h108 : s' 108 = g_set (g_set (s 108) e3 i') e4 v') (a1 : e1 = s 90 2) (a2 : e2 = s 90 2) (a3 : e3 = 2 * s 90 2) (a4 : e4 = 2 * s 90 2 + 1) (hi : i' = i) (hv : v' = v) (hs : s' 90 2 = s 90 2 + 1) : g_WS s' := fun k a b => by
  rw [h91, h92, h108]
  subst hi; subst hv; subst a3; subst a4; subst a1; subst a2
  by_cases c : k = s 90 2
  · subst c
    rw [g_set_p rfl, g_set_p rfl, g_set_n (by omega), g_set_p rfl, g_set_p rfl]
    exact ⟨rfl, rfl⟩
  · rw [g_set_n c, g_set_n c, g_set_n (by omega), g_set_n (by omega), g_set_n (by omega), g_set_n (by omega)]
    exact h k a (by omega)
theorem g_WS.ag {s s' : h_S} (h : g_WS s') (hs : s' 90 2 = s' 98 29) (e0 : s' 90 2 = s 90 2) (e1 : s' 91 = s 91) (e2 : s' 92 = s 92) (w : Int32) : g_ag (s 91) (s 92) w (s 90 2).toNat = g_ag (fun k => s' 108 (2 * k)) (fun k => s' 108 (2 * k + 1)) w (s' 98 29).toNat := by
  rw [← e0, ← e1, ← e2, ← hs]
  exact g_ag_eq _ (fun k a b => h k a (by omega))
theorem g_ct3.r {o s s' : h_S} {p g : Int} (h : g_ct3 p g o s) (e8 : s' 10 8 = s 10 8) (e9 : s' 10 9 = s 10 9) (e10 : s' 10 10 = s 10 10) (e11 : s' 11 = s 11) (e12 : s' 12 = s 12) (e13 : s' 13 2 = s 13 2) (e14 : s' 14 = s 14) (e15 : s' 15 = s 15) (e16 : s' 16 2 = s 16 2) (e17 : s' 17 = s 17) (e18 : s' 18 = s 18) (e19 : s' 19 = s 19) (e20 : s' 20 = s 20) (e22 : s' 22 = s 22) : g_ct3 p g o s' := by
  unfold g_ct3 at *
  rw [e8, e9, e10, e11, e12, e13, e14, e15, e16, e17, e18, e19, e20, e22]
  exact h
theorem g_oX.r {s s' : h_S} {p g v : Int} {r : Int32} (h : g_oX p g s v r) (e8 : s' 10 8 = s 10 8) (e9 : s' 10 9 = s 10 9) (e10 : s' 10 10 = s 10 10) (e11 : s' 11 = s 11) (e12 : s' 12 = s 12) (e13 : s' 13 2 = s 13 2) (e14 : s' 14 = s 14) (e15 : s' 15 = s 15) (e16 : s' 16 2 = s 16 2) (e17 : s' 17 = s 17) (e18 : s' 18 = s 18) (e19 : s' 19 = s 19) (e20 : s' 20 = s 20) (e22 : s' 22 = s 22) : g_oX p g s' v r := by
  obtain ⟨o, D, f, hc, h'⟩ := h
  exact ⟨o, D, f, hc.r e8 e9 e10 e11 e12 e13 e14 e15 e16 e17 e18 e19 e20 e22, h'⟩
theorem g_vr_p {p k : Int} (hk : k < p ∨ k = 6) (k0 : 0 ≤ k) (p6 : p ≤ 6) : g_vr p (-100) (if k = 6 then -4 else k) (if k = 6 then 0 else k + 1) := by
  refine ⟨fun _ => ?_, fun z => absurd z (by omega)⟩
  by_cases c : k = 6
  · rw [if_pos c, if_pos c]
    exact Or.inl ⟨rfl, rfl⟩
  · rw [if_neg c, if_neg c]
    omega
theorem c_R.par1 {s s' : h_S} {p : Int} {O O' : Int → Int} (h : c_R true s') (hI : h_I s') (ht : g_ti s') (e8 : s' 10 8 = s 10 8) (e9 : s' 10 9 = s 10 9) (e10 : s' 10 10 = s 10 10) (e11 : s' 11 = s 11) (e12 : s' 12 = s 12) (e13 : s' 13 2 = s 13 2) (e14 : s' 14 = s 14) (e15 : s' 15 = s 15) (e16 : s' 16 2 = s 16 2) (e17 : s' 17 = s 17) (e18 : s' 18 = s 18) (e19 : s' 19 = s 19) (e20 : s' 20 = s 20) (e22 : s' 22 = s 22) (w0 : s' 90 2 = s 90 2) (w1 : s' 91 = s 91) (w2 : s' 92 = s 92) (hp : 0 ≤ p ∧ p < s' 10 8) : ∀ (k : Int) (w w' : Int32), 0 ≤ k → k < 7 → decide (k < p ∨ k = 6) = true → (fun k w => g_oX p (-100) s (if k = 6 then -4 else k) w ∧ O k = w.toInt) k w → (fun k w => g_oM p (-100) s' (if k = 6 then 0 else k + 1) w ∧ O' k = w.toInt) k w' → w = w' := fun k w w' k0 k1 hk hx hm =>
  (h.off hI ht (Or.inl ⟨hp.1, hp.2, rfl⟩) (g_vr_p (of_decide_eq_true hk) k0 (by have t := tf_10_8 hI; omega)) (hx.1.r e8 e9 e10 e11 e12 e13 e14 e15 e16 e17 e18 e19 e20 e22) hm.1).1
theorem c_R.parR {s s' : h_S} {p p' : Int} {O O' : Int → Int} {r u : Int32} (h : c_R true s') (hI : h_I s') (ht : g_ti s') (hw : g_WS s') (hs : s' 90 2 = s' 98 29) (e8 : s' 10 8 = s 10 8) (e9 : s' 10 9 = s 10 9) (e10 : s' 10 10 = s 10 10) (e11 : s' 11 = s 11) (e12 : s' 12 = s 12) (e13 : s' 13 2 = s 13 2) (e14 : s' 14 = s 14) (e15 : s' 15 = s 15) (e16 : s' 16 2 = s 16 2) (e17 : s' 17 = s 17) (e18 : s' 18 = s 18) (e19 : s' 19 = s 19) (e20 : s' 20 = s 20) (e22 : s' 22 = s 22) (w0 : s' 90 2 = s 90 2) (w1 : s' 91 = s 91) (w2 : s' 92 = s 92) (hX : g_iv (fun k w => g_oX p (-100) s (if k = 6 then -4 else k) w ∧ O k = w.toInt) (fun k => decide (k < p ∨ k = 6)) (fun w => g_ag (s 91) (s 92) w (s 90 2).toNat) 7 r) (hM : g_iv (fun k w => g_oM p' (-100) s' (if k = 6 then 0 else k + 1) w ∧ O' k = w.toInt) (fun k => decide (k < p' ∨ k = 6)) (fun w => g_ag (fun k => s' 108 (2 * k)) (fun k => s' 108 (2 * k + 1)) w (s' 98 29).toNat) 7 u) (e : p' = p) (hp : 0 ≤ p ∧ p < s' 10 8) : r = u := by
  subst e
  exact g_iv_e hX hM (by omega) (h.par1 hI ht e8 e9 e10 e11 e12 e13 e14 e15 e16 e17 e18 e19 e20 e22 w0 w1 w2 hp) (fun w => hw.ag hs w0 w1 w2 w)
