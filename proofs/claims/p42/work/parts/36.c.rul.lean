/-! MORE RULES OF THE RELATION -/
section CM
variable {fl : Bool} {s s' : h_S}
theorem c_R.sz (h : c_R fl s) : s 10 8 = s 98 1 ∧ s 10 9 = s 98 2 ∧ s 10 10 = s 99 43 ∧ s 13 2 = s 99 18 ∧ s 16 2 = s 99 25 := ⟨h.1.1, h.1.2, h.2.1.1.1, h.2.1.1.2.1, h.2.1.1.2.2⟩
/-- the general rule: the county, the images, the pages, each by itself -/
theorem c_R.mk' (h : c_R fl s) (hI : h_I s) (q1 : s' 98 1 = s 98 1) (q2 : s' 98 2 = s 98 2) (hc : c_eq fl s' 10 s 10) (e1 : c_eq fl s' 36 s 36) (e2 : c_eq fl s' 49 s 49) (p0 : c_pg fl (fun j => s 99 (0 + j)) (fun j => s' 99 (0 + j))) (p1 : c_pg fl (fun j => s 99 (44 + j)) (fun j => s' 99 (44 + j))) (p2 : c_pg fl (fun j => s 99 (88 + j)) (fun j => s' 99 (88 + j))) (i0 : s' 62 0 = s 62 0) (i1 : s' 62 1 = s 62 1) (n0 : s' 110 0 = s 110 0) (n1 : s' 110 1 = s 110 1) : c_R fl s' := by
  obtain ⟨⟨h1, h2⟩, h3, ⟨h4, h5⟩, h6, h7⟩ := h
  have b := c_sz_of hI
  refine ⟨⟨by rw [hc.1.1, q1]; exact h1, by rw [hc.1.2.1, q2]; exact h2⟩, h3.mv b.1 hc p0, ⟨by rw [i0, n0]; exact h4, by rw [i1, n1]; exact h5⟩, fun z => ?_, fun z => ?_⟩
  · rw [i0] at z
    exact (h6 z).mv b.2.1 e1 p1 q1 q2
  · rw [i1] at z
    exact (h7 z).mv b.2.2 e2 p2 q1 q2
theorem c_pg.wk {g g' : Int → Int} (h : c_pg true g g') : c_pg fl g g' := ⟨h.1, h.2.1, fun _ => h.2.2 rfl⟩
def k_rel2 (fl : Bool) (A : List Nat) : Bool := k_cty fl A 10 && k_cty fl A 36 && k_cty fl A 49 && k_pge fl A 44 && k_pge fl A 88 && k_out A 98 1 2 && k_out A 62 0 1 && k_out A 110 0 1
theorem c_R.pag {A : List Nat} (h : c_R fl s) (hI : h_I s) (f : h_F (k_in A) s' s) (hp : c_pg fl (fun j => s 99 (0 + j)) (fun j => s' 99 (0 + j))) (hk : k_rel2 fl A = true) : c_R fl s' := by
  unfold k_rel2 at hk
  simp only [Bool.and_eq_true] at hk
  obtain ⟨⟨⟨⟨⟨⟨⟨k1, k2⟩, k3⟩, k5⟩, k6⟩, k7⟩, k8⟩, k9⟩ := hk
  exact h.mk' hI (f.no k7 (by omega) (by omega)) (f.no k7 (by omega) (by omega)) (c_eq.fr f k1) (c_eq.fr f k2) (c_eq.fr f k3) hp (c_pg.fr f k5) (c_pg.fr f k6) (f.no k8 (by omega) (by omega)) (f.no k8 (by omega) (by omega)) (f.no k9 (by omega) (by omega)) (f.no k9 (by omega) (by omega))
/-- a place that the relation does not speak of -/
theorem c_R.up {q : Nat} {e v : Int} (h : c_R fl s) (hI : h_I s) (u : s' = h_up s q e v) (hq : (Nat.blt q 10 || (Nat.blt 22 q && Nat.blt q 36) || (Nat.blt 62 q && Nat.blt q 98) || (Nat.blt 99 q && Nat.blt q 110) || Nat.blt 110 q) = true) : c_R fl s' := by
  have ne : ∀ p, (10 ≤ p ∧ p ≤ 22) ∨ (36 ≤ p ∧ p ≤ 62) ∨ p = 98 ∨ p = 99 ∨ p = 110 → ¬ p = q := by
    intro p hp e
    subst e
    simp only [Bool.or_eq_true, Bool.and_eq_true] at hq
    have l : ∀ a b : Nat, Nat.blt a b = true → a < b := fun a b h => Nat.le_of_ble_eq_true h
    rcases hq with (((hq | hq) | hq) | hq) | hq
    · have := l _ _ hq; omega
    · have := l _ _ hq.1; have := l _ _ hq.2; omega
    · have := l _ _ hq.1; have := l _ _ hq.2; omega
    · have := l _ _ hq.1; have := l _ _ hq.2; omega
    · have := l _ _ hq; omega
  have un : ∀ p j, (10 ≤ p ∧ p ≤ 22) ∨ (36 ≤ p ∧ p ≤ 62) ∨ p = 98 ∨ p = 99 ∨ p = 110 → s' p j = s p j := fun p j hp => h_upq u (ne p hp) j
  exact h.mk' hI (un _ _ (by omega)) (un _ _ (by omega)) (c_eq.un (fun p j a b => un p j (by omega))) (c_eq.un (fun p j a b => un p j (by omega))) (c_eq.un (fun p j a b => un p j (by omega))) (c_pg.all (fun j _ _ => un _ _ (by omega))) (c_pg.all (fun j _ _ => un _ _ (by omega))) (c_pg.all (fun j _ _ => un _ _ (by omega))) (un _ _ (by omega)) (un _ _ (by omega)) (un _ _ (by omega)) (un _ _ (by omega))
theorem c_R.up98 {e v : Int} (h : c_R fl s) (hI : h_I s) (u : s' = h_up s 98 e v) (h1 : ¬ e = 1) (h2 : ¬ e = 2) : c_R fl s' := by
  have un : ∀ p j, ¬ p = 98 → s' p j = s p j := fun p j hp => h_upq u hp j
  exact h.mk' hI (h_upd u (fun x => h1 x.symm)) (h_upd u (fun x => h2 x.symm)) (c_eq.un (fun p j a b => un p j (by omega))) (c_eq.un (fun p j a b => un p j (by omega))) (c_eq.un (fun p j a b => un p j (by omega))) (c_pg.all (fun j _ _ => un _ _ (by omega))) (c_pg.all (fun j _ _ => un _ _ (by omega))) (c_pg.all (fun j _ _ => un _ _ (by omega))) (un _ _ (by omega)) (un _ _ (by omega)) (un _ _ (by omega)) (un _ _ (by omega))
/-- an image is kept -/
theorem c_R.keep0 (h : c_R fl s) (hI : h_I s) (q1 : s' 98 1 = s 98 1) (q2 : s' 98 2 = s 98 2) (hc : c_eq fl s' 10 s 10) (e1 : c_eq fl s' 36 s 10) (e2 : c_eq fl s' 49 s 49) (p0 : c_pg fl (fun j => s 99 (0 + j)) (fun j => s' 99 (0 + j))) (p1 : ∀ j, 0 ≤ j → j < 44 → s' 99 (44 + j) = s 99 (0 + j)) (p2 : c_pg fl (fun j => s 99 (88 + j)) (fun j => s' 99 (88 + j))) (i0 : s' 62 0 = 1) (i1 : s' 62 1 = s 62 1) (n0 : s' 110 0 = 1) (n1 : s' 110 1 = s 110 1) : c_R fl s' := by
  obtain ⟨⟨h1, h2⟩, h3, ⟨h4, h5⟩, h6, h7⟩ := h
  have b := c_sz_of hI
  refine ⟨⟨by rw [hc.1.1, q1]; exact h1, by rw [hc.1.2.1, q2]; exact h2⟩, h3.mv b.1 hc p0, ⟨by omega, by omega⟩, fun z => ⟨by rw [e1.1.1, q1]; exact h1, by rw [e1.1.2.1, q2]; exact h2, h3.mv b.1 e1 (c_pg.all p1)⟩, fun z => ?_⟩
  rw [i1] at z
  exact (h7 z).mv b.2.2 e2 p2 q1 q2
theorem c_R.keep1 (h : c_R fl s) (hI : h_I s) (q1 : s' 98 1 = s 98 1) (q2 : s' 98 2 = s 98 2) (hc : c_eq fl s' 10 s 10) (e1 : c_eq fl s' 36 s 36) (e2 : c_eq fl s' 49 s 10) (p0 : c_pg fl (fun j => s 99 (0 + j)) (fun j => s' 99 (0 + j))) (p1 : c_pg fl (fun j => s 99 (44 + j)) (fun j => s' 99 (44 + j))) (p2 : ∀ j, 0 ≤ j → j < 44 → s' 99 (88 + j) = s 99 (0 + j)) (i0 : s' 62 0 = s 62 0) (i1 : s' 62 1 = 1) (n0 : s' 110 0 = s 110 0) (n1 : s' 110 1 = 1) : c_R fl s' := by
  obtain ⟨⟨h1, h2⟩, h3, ⟨h4, h5⟩, h6, h7⟩ := h
  have b := c_sz_of hI
  refine ⟨⟨by rw [hc.1.1, q1]; exact h1, by rw [hc.1.2.1, q2]; exact h2⟩, h3.mv b.1 hc p0, ⟨by omega, by omega⟩, fun z => ?_, fun z => ⟨by rw [e2.1.1, q1]; exact h1, by rw [e2.1.2.1, q2]; exact h2, h3.mv b.1 e2 (c_pg.all p2)⟩⟩
  rw [i0] at z
  exact (h6 z).mv b.2.1 e1 p1 q1 q2
/-- all is as an image -/
theorem c_R.back0 (h : c_R fl s) (hI : h_I s) (hz : s 62 0 = 1) (q1 : s' 98 1 = s 98 1) (q2 : s' 98 2 = s 98 2) (hc : c_eq fl s' 10 s 36) (e1 : c_eq fl s' 36 s 36) (e2 : c_eq fl s' 49 s 49) (p0 : ∀ j, 0 ≤ j → j < 44 → s' 99 (0 + j) = s 99 (44 + j)) (p1 : c_pg fl (fun j => s 99 (44 + j)) (fun j => s' 99 (44 + j))) (p2 : c_pg fl (fun j => s 99 (88 + j)) (fun j => s' 99 (88 + j))) (i0 : s' 62 0 = s 62 0) (i1 : s' 62 1 = s 62 1) (n0 : s' 110 0 = s 110 0) (n1 : s' 110 1 = s 110 1) : c_R fl s' := by
  obtain ⟨⟨h1, h2⟩, h3, ⟨h4, h5⟩, h6, h7⟩ := h
  have b := c_sz_of hI
  have hm := h6 hz
  refine ⟨⟨by rw [hc.1.1, q1]; exact hm.1, by rw [hc.1.2.1, q2]; exact hm.2.1⟩, hm.2.2.mv b.2.1 hc (c_pg.all p0), ⟨by omega, by omega⟩, fun z => hm.mv b.2.1 e1 p1 q1 q2, fun z => ?_⟩
  rw [i1] at z
  exact (h7 z).mv b.2.2 e2 p2 q1 q2
theorem c_R.back1 (h : c_R fl s) (hI : h_I s) (hz : s 62 1 = 1) (q1 : s' 98 1 = s 98 1) (q2 : s' 98 2 = s 98 2) (hc : c_eq fl s' 10 s 49) (e1 : c_eq fl s' 36 s 36) (e2 : c_eq fl s' 49 s 49) (p0 : ∀ j, 0 ≤ j → j < 44 → s' 99 (0 + j) = s 99 (88 + j)) (p1 : c_pg fl (fun j => s 99 (44 + j)) (fun j => s' 99 (44 + j))) (p2 : c_pg fl (fun j => s 99 (88 + j)) (fun j => s' 99 (88 + j))) (i0 : s' 62 0 = s 62 0) (i1 : s' 62 1 = s 62 1) (n0 : s' 110 0 = s 110 0) (n1 : s' 110 1 = s 110 1) : c_R fl s' := by
  obtain ⟨⟨h1, h2⟩, h3, ⟨h4, h5⟩, h6, h7⟩ := h
  have b := c_sz_of hI
  have hm := h7 hz
  refine ⟨⟨by rw [hc.1.1, q1]; exact hm.1, by rw [hc.1.2.1, q2]; exact hm.2.1⟩, hm.2.2.mv b.2.2 hc (c_pg.all p0), ⟨by omega, by omega⟩, fun z => ?_, fun z => hm.mv b.2.2 e2 p2 q1 q2⟩
  rw [i0] at z
  exact (h6 z).mv b.2.1 e1 p1 q1 q2
theorem c_R.ps (h : c_R fl s) {j : Int} (j0 : 0 ≤ j) (j1 : j < s 10 8) : s 11 j = s 99 j ∧ ((s 12 j = -4 ∧ s 99 (6 + j) = 0) ∨ (0 ≤ s 12 j ∧ s 12 j < j ∧ s 99 (6 + j) = s 12 j + 1)) := by
  have y := h.2.1.2.1 j j0 j1
  try dsimp only at y
  rw [Int.zero_add, Int.zero_add] at y
  exact y
theorem c_R.mr (h : c_R fl s) {j : Int} (j0 : 0 ≤ j) (j1 : j < s 13 2) : s 14 j = s 99 (12 + 2 * j) ∧ s 15 j = s 99 (12 + 2 * j + 1) ∧ 0 ≤ s 14 j ∧ s 14 j < s 10 8 ∧ 0 ≤ s 15 j ∧ s 15 j < s 10 8 := by
  have y := h.2.1.2.2.1 j j0 j1
  try dsimp only at y
  rw [Int.zero_add, Int.zero_add] at y
  exact y
theorem c_R.fe (h : c_R fl s) {j : Int} (j0 : 0 ≤ j) (j1 : j < s 16 2) : s 17 j = s 99 (19 + 2 * j) ∧ s 18 j = s 99 (19 + 2 * j + 1) ∧ 0 ≤ s 17 j ∧ s 17 j < s 10 8 ∧ 0 ≤ s 18 j ∧ s 18 j < s 10 8 := by
  have y := h.2.1.2.2.2.1 j j0 j1
  try dsimp only at y
  rw [Int.zero_add, Int.zero_add] at y
  exact y
theorem c_R.rc (h : c_R fl s) {j : Int} (j0 : 0 ≤ j) (j1 : j < s 10 9) : s 19 j = s 99 (26 + j) := by
  have y := h.2.1.2.2.2.2.1 j j0 j1
  try dsimp only at y
  rw [Int.zero_add] at y
  exact y
theorem c_R.lw (h : c_R true s) {j : Int} (j0 : 0 ≤ j) (j1 : j < s 10 9) : ((s 20 j = -4 ∧ s 99 (29 + j) = 0) ∨ (0 ≤ s 20 j ∧ s 20 j < s 10 8 ∧ s 99 (29 + j) = s 20 j + 1)) ∧ s 21 j = s 99 (32 + j) := by
  have y := h.2.1.2.2.2.2.2.2 rfl j j0 j1
  try dsimp only at y
  rw [Int.zero_add, Int.zero_add] at y
  exact y
end CM
theorem h_undf {f f0 f' : Int → Int} {t i : Int} (h0 : ∀ j, f0 j = f j) (h : g_und f0 f' t i) : g_und f f' t i := by
  have e : f0 = f := funext h0
  rw [← e]
  exact h
theorem c_R.zero {fl : Bool} {s : h_S} (z1 : s 10 8 = 0) (z2 : s 10 9 = 0) (z3 : s 10 10 = 0) (z4 : s 13 2 = 0) (z5 : s 16 2 = 0) (m1 : s 98 1 = 0) (m2 : s 98 2 = 0) (m3 : s 99 43 = 0) (m4 : s 99 18 = 0) (m5 : s 99 25 = 0) (i0 : s 62 0 = 0) (i1 : s 62 1 = 0) (n0 : s 110 0 = 0) (n1 : s 110 1 = 0) : c_R fl s := by
  have w4 : s (10 + 3) 2 = 0 := z4
  have w5 : s (10 + 6) 2 = 0 := z5
  refine ⟨⟨z1.trans m1.symm, z2.trans m2.symm⟩, ⟨⟨z3.trans m3.symm, z4.trans m4.symm, z5.trans m5.symm⟩, fun j a b => ?_, fun j a b => ?_, fun j a b => ?_, fun j a b => ?_, fun j a b => ?_, fun _ j a b => ?_⟩, ⟨i0.trans n0.symm, i1.trans n1.symm⟩, fun z => ?_, fun z => ?_⟩ <;> exfalso <;> omega
def k_txm : List Nat := [10248, 10249, 10250, 12287, 13311, 13314, 15359, 16383, 16386, 18431, 19455, 20479, 21503, 22527, 23551, 64511, 64514, 64515, 64516, 64517, 65537, 65538, 65539, 65540, 65541, 67592, 67593, 67594, 69631, 70655, 70658, 72703, 73727, 73730, 75775, 76799, 77823, 78847, 79871, 80895, 92162, 100353, 100354, 100357, 100358, 100359, 100360, 100361, 100363, 100364, 100365, 100366, 100367, 100368, 100369, 100370, 100381, 101888, 104447, 113663]
