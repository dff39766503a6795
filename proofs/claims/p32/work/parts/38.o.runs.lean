/-! HOW MANY BITS, THE FIRST THAT IS NOT -/
theorem g_or_8' : ∀ x : Fin 256, ∀ i : Fin 8, 0 ≤ (g_or (Int32.ofInt ((x.val : Nat) : Int)) ((i.val : Nat) : Int)).toInt ∧ (g_or (Int32.ofInt ((x.val : Nat) : Int)) ((i.val : Nat) : Int)).toInt ≤ 255 := by decide +kernel
theorem g_w_8 {w : Int32} (h : 0 ≤ w.toInt) : Int32.ofInt ((w.toInt.toNat : Nat) : Int) = w := by
  rw [show ((w.toInt.toNat : Nat) : Int) = w.toInt by omega, Int32.ofInt_toInt]
theorem g_or_8 {w : Int32} {i : Int} (h : 0 ≤ w.toInt ∧ w.toInt ≤ 255) (hi : 0 ≤ i ∧ i ≤ 7) : 0 ≤ (g_or w i).toInt ∧ (g_or w i).toInt ≤ 255 := by
  have z : 0 ≤ (g_or (Int32.ofInt ((w.toInt.toNat : Nat) : Int)) ((i.toNat : Nat) : Int)).toInt ∧ (g_or (Int32.ofInt ((w.toInt.toNat : Nat) : Int)) ((i.toNat : Nat) : Int)).toInt ≤ 255 := g_or_8' ⟨w.toInt.toNat, by omega⟩ ⟨i.toNat, by omega⟩
  rw [g_w_8 h.1, show ((i.toNat : Nat) : Int) = i by omega] at z
  exact z
theorem g_pf_8 {y : Int → Int → Int → Bool} {aw : Int32} {pl L : Int → Int} : ∀ k : Nat, k ≤ 8 → 0 ≤ ((g_pf y aw pl (L, 0, 0) k).2.2).toInt ∧ ((g_pf y aw pl (L, 0, 0) k).2.2).toInt ≤ 255
  | 0, _ => by
    show 0 ≤ (0 : Int32).toInt ∧ (0 : Int32).toInt ≤ 255
    decide
  | m + 1, h => by
    have z := g_pf_8 (y := y) (aw := aw) (pl := pl) (L := L) m (by omega)
    show 0 ≤ ((g_ps y aw (pl (m : Int)) (m : Int) (g_pf y aw pl (L, 0, 0) m)).2.2).toInt ∧ ((g_ps y aw (pl (m : Int)) (m : Int) (g_pf y aw pl (L, 0, 0) m)).2.2).toInt ≤ 255
    unfold g_ps
    by_cases c : g_hb aw (pl (m : Int) / 10) = 0 ∧ y (pl (m : Int) / 10) ((g_pf y aw pl (L, 0, 0) m).1 (pl (m : Int) % 10)) (pl (m : Int) % 10) = true
    · rw [if_pos c]
      exact g_or_8 z ⟨by omega, by omega⟩
    · rw [if_neg c]
      exact z
theorem g_hb_oi {z v b y : Int32} {x c : Int} (hz : z = v &&& (Int32.ofInt 1)) (hv : v = b >>> (y &&& 31)) (hy : y.toInt = x) (hc : b.toInt = c) : z.toInt = g_hb (Int32.ofInt c) x := by
  rw [g_ofi hc]
  exact g_hb_of hz hv hy
theorem g_if_1 {c : Bool} {b : Int} (h : c = true) (hb : b = 1) : b = if c = true then 1 else 0 := by rw [if_pos h, hb]
theorem g_if_0 {c : Bool} {b : Int} (h : c = false) (hb : b = 0) : b = if c = true then 1 else 0 := by rw [h, hb]; rfl
theorem g_if_y {c : Bool} {b : Int} (h : b = if c = true then 1 else 0) (hb : ¬ b = 0) : c = true := by
  by_cases z : c = true
  · exact z
  · rw [if_neg z] at h
    exact absurd h hb
theorem g_if_n {c : Bool} {b : Int} (h : b = if c = true then 1 else 0) (hb : b = 0) : c = false := by
  by_cases z : c = true
  · rw [if_pos z] at h
    omega
  · exact Bool.eq_false_iff.mpr z
/-! RUNS, AHEAD -/
theorem g_run_eq {np ng nf m na : Int} {F G f c d A B r R l L0 L1 q pl : Int → Int} {aw : Int32} (hd : g_ph np 256 F G) (n6 : np ≤ 6) (hf : g_FX np c d nf f) (hm : m = nf) (hfe : ∀ j, 0 ≤ j → j < nf → c j = A j ∧ d j = B j) (hre : ∀ g, 0 ≤ g → g < ng → r g = R g ∧ r g ≤ 999) (hla : ∀ g, 0 ≤ g → g < ng → l g = L0 g ∧ (l g = -4 ∨ (0 ≤ l g ∧ l g < np))) (hpl : ∀ j, 0 ≤ j → j < na → q j = pl j ∧ 0 ≤ q j ∧ q j / 10 < np ∧ q j % 10 < ng) (hL : g_cq ng l L1) (k : Nat) (hk : (k : Int) ≤ na) : g_pe ng (g_pf (fun p l g => g_yX np F f p l (r g)) aw q (L1, 0, 0) k) (g_pf (fun p l g => g_yM G A B m p l (R g)) aw pl (L0, 0, 0) k) :=
  (g_pf_e (n := np) (ng := ng) (aw := aw) (pl := q) (pl' := pl) (x := (L1, 0, 0)) (x' := (L0, 0, 0)) ⟨fun g a b => (hL g a b).trans (hla g a b).1, rfl, rfl⟩ (fun g a b => by
    have z := (hla g a b).2
    rw [← hL g a b] at z
    exact z) (fun p l g p0 p1 g0 g1 hl => by
    have z := hre g g0 g1
    show g_yX np F f p l (r g) = g_yM G A B m p l (R g)
    rw [← z.1]
    exact g_y_eq hd n6 hf hm hfe hl p0 p1 z.2) k (fun i a b => hpl i a (by omega))).1
theorem g_oft {t : Int} (h : -2147483648 ≤ t ∧ t ≤ 2147483647) : (Int32.ofInt t).toInt = t := by
  first | exact Int32.toInt_ofInt_of_le (by omega) (by omega) | (rw [Int32.toInt_ofInt]; exact h_bm h.1 h.2)
theorem c_R.runl {s s' : h_S} (h : c_R true s) (e8 : s' 10 8 = s 10 8) (e9 : s' 10 9 = s 10 9) (e20 : s' 20 = s 20) : g_lk' (s' 10 8) (s' 10 9) (s' 20) := by
  rw [e8, e9, e20]
  intro g a b
  have lw := (h.lw a b).1
  omega
theorem c_R.runp {fl : Bool} {s s' : h_S} (h : c_R fl s) (e8 : s' 10 8 = s 10 8) (e9 : s' 10 9 = s 10 9) (e10 : s' 10 10 = s 10 10) (e22 : s' 22 = s 22) : ∀ i, 0 ≤ i → i < s' 10 10 → 0 ≤ s' 22 i ∧ s' 22 i / 10 < s' 10 8 ∧ s' 22 i % 10 < s' 10 9 := by
  rw [e8, e9, e10, e22]
  intro i a b
  exact (h.pa a b).2
theorem c_R.runm {fl : Bool} {s s' : h_S} (h : c_R fl s) (hI : h_I s) (e99 : s' 99 = s 99) : ∀ i, 0 ≤ i → i < s' 99 43 → 0 ≤ s' 99 (35 + i) ∧ s' 99 (35 + i) / 10 < 6 ∧ s' 99 (35 + i) % 10 < 3 := by
  rw [e99]
  intro i a b
  have sz := h.sz
  have y := h.pa (j := i) a (by omega)
  have t8 := tf_10_8 hI
  have t9 := tf_10_9 hI
  rw [← y.1]
  exact ⟨y.2.1, by omega, by omega⟩
theorem g_run_c {y : Int → Int → Int → Bool} {aw c r : Int32} {X q l : Int → Int} {n ng na : Int} (hX : ∃ L0, g_cq ng l L0 ∧ (X, c, r) = g_pf y aw q (L0, 0, 0) na.toNat) (hl : g_lk' n ng l) (hq : ∀ i, 0 ≤ i → i < na → 0 ≤ q i ∧ q i / 10 < n ∧ q i % 10 < ng) : c = (g_pf y aw q (l, 0, 0) na.toNat).2.1 ∧ r = (g_pf y aw q (l, 0, 0) na.toNat).2.2 := by
  obtain ⟨L0, z1, z2⟩ := hX
  have e := (g_pf_e (n := n) (ng := ng) (y := y) (y' := y) (aw := aw) (pl := q) (pl' := q) (x := (L0, 0, 0)) (x' := (l, 0, 0)) ⟨z1, rfl, rfl⟩ (fun g a b => by
    have z := hl g a b
    rw [← z1 g a b] at z
    exact z) (fun _ _ _ _ _ _ _ _ => rfl) na.toNat (fun i a b => ⟨rfl, hq i a (by omega)⟩)).1
  rw [← z2] at e
  exact ⟨e.2.1, e.2.2⟩
