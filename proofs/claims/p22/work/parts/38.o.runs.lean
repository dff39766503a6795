/-! HOW MANY BITS, THE FIRST THAT IS NOT -/
theorem g_or_8' : ∀ x : Fin 256, ∀ i : Fin 8, 0 ≤ (g_or (Int32.ofInt ((x.val : Nat) : Int)) ((i.val : Nat) : Int)).toInt ∧ (g_or (Int32.ofInt ((x.val : Nat) : Int)) ((i.val : Nat) : Int)).toInt ≤ 255 := by decide +kernel
theorem g_w_8 {w : Int32} (h : 0 ≤ w.toInt) : Int32.ofInt ((w.toInt.toNat : Nat) : Int) = w := by
  rw [show ((w.toInt.toNat : Nat) : Int) = w.toInt by omega, Int32.ofInt_toInt]
theorem g_or_8 {w : Int32} {i : Int} (h : 0 ≤ w.toInt ∧ w.toInt ≤ 255) (hi : 0 ≤ i ∧ i ≤ 7) : 0 ≤ (g_or w i).toInt ∧ (g_or w i).toInt ≤ 255 := by
  have z : 0 ≤ (g_or (Int32.ofInt ((w.toInt.toNat : Nat) : Int)) ((i.toNat : Nat) : Int)).toInt ∧ (g_or (Int32.ofInt ((w.toInt.toNat : Nat) : Int)) ((i.toNat : Nat) : Int)).toInt ≤ 255 := g_or_8' ⟨w.toInt.toNat, by omega⟩ ⟨i.toNat, by omega⟩
  rw [g_w_8 h.1, show ((i.toNat : Nat) : Int) = i by omega] at z
  exact z
theorem g_pf_8 {y : Int → Int → Int → Bool} {aw : Int32} {pl L : Int → Int} : ∀ k : Nat, k ≤ 8 → 0 ≤ ((g_pf y aw pl (L, 0, 0) k).2.2).toInt ∧ ((g_pf y aw pl (L, 0, 0) k).2.2).toInt ≤ 255
  | 0, _ => by
    show 0 ≤ (0 : Int32).toInt ∧ (0 : Int32).toInt ≤ 255
    decide
  | m + 1, h => by
    have z := g_pf_8 (y := y) (aw := aw) (pl := pl) (L := L) m (by omega)
    show 0 ≤ ((g_ps y aw (pl (m : Int)) (m : Int) (g_pf y aw pl (L, 0, 0) m)).2.2).toInt ∧ ((g_ps y aw (pl (m : Int)) (m : Int) (g_pf y aw pl (L, 0, 0) m)).2.2).toInt ≤ 255
    unfold g_ps
    by_cases c : g_hb aw (pl (m : Int) / 10) = 0 ∧ y (pl (m : Int) / 10) ((g_pf y aw pl (L, 0, 0) m).1 (pl (m : Int) % 10)) (pl (m : Int) % 10) = true
    · rw [if_pos c]
      exact g_or_8 z ⟨by omega, by omega⟩
    · rw [if_neg c]
      exact z
/-! RUNS, AHEAD -/
theorem g_run_eq {np ng nf m na : Int} {F G f c d A B r R l L0 L1 q pl : Int → Int} {aw : Int32} (hd : g_ph np 256 F G) (n6 : np ≤ 6) (hf : g_FX np c d nf f) (hm : m = nf) (hfe : ∀ j, 0 ≤ j → j < nf → c j = A j ∧ d j = B j) (hre : ∀ g, 0 ≤ g → g < ng → r g = R g ∧ r g ≤ 999) (hla : ∀ g, 0 ≤ g → g < ng → l g = L0 g ∧ (l g = -4 ∨ (0 ≤ l g ∧ l g < np))) (hpl : ∀ j, 0 ≤ j → j < na → q j = pl j ∧ 0 ≤ q j ∧ q j / 10 < np ∧ q j % 10 < ng) (hL : g_cq ng l L1) (k : Nat) (hk : (k : Int) ≤ na) : g_pe ng (g_pf (fun p l g => g_yX np F f p l (r g)) aw q (L1, 0, 0) k) (g_pf (fun p l g => g_yM G A B m p l (R g)) aw pl (L0, 0, 0) k) :=
  (g_pf_e (n := np) (ng := ng) (aw := aw) (pl := q) (pl' := pl) (x := (L1, 0, 0)) (x' := (L0, 0, 0)) ⟨fun g a b => (hL g a b).trans (hla g a b).1, rfl, rfl⟩ (fun g a b => by
    have z := (hla g a b).2
    rw [← hL g a b] at z
    exact z) (fun p l g p0 p1 g0 g1 hl => by
    have z := hre g g0 g1
    show g_yX np F f p l (r g) = g_yM G A B m p l (R g)
    rw [← z.1]
    exact g_y_eq hd n6 hf hm hfe hl p0 p1 z.2) k (fun i a b => hpl i a (by omega))).1
theorem c_R.run {s : h_S} {F G f L1 X84 S : Int → Int} {aw r : Int32} {x82 c t : Int} (h : c_R true s) (hI : h_I s) (ht : g_ti s) (hF : g_DX (s 10 8) (s 12) (s 11) (s 13 2) (s 14) (s 15) F) (hG : g_DM (s 98 1) (s 99 18) (s 99) (s 100) G) (hf : g_FX (s 10 8) (s 17) (s 18) (s 16 2) f) (hL : g_cq (s 10 9) (s 20) L1) (hX : (X84, Int32.ofInt x82, r) = g_pf (fun p l g => g_yX (s 10 8) F f p l (s 19 g)) aw (s 22) (L1, 0, 0) (s 10 10).toNat) (hM : g_pmI (fun p l g => g_yM G (fun i => s 99 (19 + 2 * i)) (fun i => s 99 (19 + 2 * i + 1)) (s 99 25) p l (s 99 (26 + g))) aw (fun i => s 99 (35 + i)) (fun g => g_orn (s 99 (29 + g))) (s 99 43) S c t) : (∀ g, 0 ≤ g → g < s 10 9 → X84 g = g_orn (S (161 + g))) ∧ Int32.ofInt x82 = Int32.ofInt c ∧ r = Int32.ofInt t ∧ 0 ≤ r.toInt ∧ r.toInt ≤ 255 := by
  have gd := h.deg hI ht hF hG
  have sz := h.sz
  have t8 := tf_10_8 hI
  have t9 := tf_10_9 hI
  have t10 := tf_10_10 hI
  obtain ⟨m1, m2, m3⟩ := hM
  have e := g_run_eq (aw := aw) (A := fun i => s 99 (19 + 2 * i)) (B := fun i => s 99 (19 + 2 * i + 1)) (R := fun g => s 99 (26 + g)) (r := s 19) (l := s 20) (L0 := fun g => g_orn (s 99 (29 + g))) (q := s 22) (pl := fun i => s 99 (35 + i)) (na := s 10 10) (ng := s 10 9) gd t8.2 hf sz.2.2.2.2.symm (fun j a b => ⟨(h.fe a b).1, (h.fe a b).2.1⟩) (fun g a b => ⟨h.rc a b, by have y := ty_19 hI g; omega⟩) (fun g a b => by
    have lw := (h.lw a b).1
    refine ⟨?_, by omega⟩
    show s 20 g = g_orn (s 99 (29 + g))
    exact g_orn_of (by omega)) (fun j a b => h.pa a b) hL (s 10 10).toNat (by omega)
  have z8 := g_pf_8 (y := fun p l g => g_yX (s 10 8) F f p l (s 19 g)) (aw := aw) (pl := s 22) (L := L1) (s 10 10).toNat (by omega)
  rw [← sz.2.2.1] at m1 m2 m3
  rw [← hX] at e z8
  obtain ⟨e1, e2, e3⟩ := e
  exact ⟨fun g a b => (e1 g a b).trans (m1 g a (by omega)).symm, e2.trans m2.symm, e3.trans m3.symm, z8⟩
theorem g_oft {t : Int} (h : -2147483648 ≤ t ∧ t ≤ 2147483647) : (Int32.ofInt t).toInt = t := by
  first | exact Int32.toInt_ofInt_of_le (by omega) (by omega) | (rw [Int32.toInt_ofInt]; exact h_bm h.1 h.2)
theorem g_orn_d (v : Int) : (v = 0 ∧ g_orn v = -4) ∨ (¬ v = 0 ∧ g_orn v = v - 1) := by
  unfold g_orn
  by_cases c : v = 0
  · rw [if_pos c]
    exact Or.inl ⟨c, rfl⟩
  · rw [if_neg c]
    exact Or.inr ⟨c, rfl⟩
theorem c_R.runR {s s1 s2 s3 s4 : h_S} {aw r : Int32} (h : c_R true s) (hI : h_I s) (ht : g_ti s) (hF : g_DX (s 10 8) (s 12) (s 11) (s 13 2) (s 14) (s 15) (s1 80)) (hf : g_FX (s 10 8) (s 17) (s 18) (s 16 2) (s1 81)) (a8 : s1 10 8 = s 10 8) (a9 : s1 10 9 = s 10 9) (a10 : s1 10 10 = s 10 10) (a19 : s1 19 = s 19) (a20 : s1 20 = s 20) (a22 : s1 22 = s 22) (hX : ∃ L0, g_cq (s1 10 9) (s1 20) L0 ∧ (s2 84, Int32.ofInt (s2 82 2), r) = g_pf (fun p l g => g_yX (s1 10 8) (s1 80) (s1 81) p l (s1 19 g)) aw (s1 22) (L0, 0, 0) (s1 10 10).toNat) (I2 : h_I s2) (b1 : s3 98 1 = s 98 1) (b99 : s3 99 = s 99) (b100 : s3 100 = s 100) (hG : g_DM (s3 98 1) (s3 99 18) (s3 99) (s3 100) (s4 105)) (hM : g_pmI (fun p l g => g_yM (s4 105) (fun i => s3 99 (19 + 2 * i)) (fun i => s3 99 (19 + 2 * i + 1)) (s3 99 25) p l (s3 99 (26 + g))) aw (fun i => s3 99 (35 + i)) (fun g => g_orn (s3 99 (29 + g))) (s3 99 43) (s4 99) (s4 98 22) (s4 98 23)) (I4 : h_I s4) : (∀ g, 0 ≤ g → g < s 10 9 → s2 84 g = g_orn (s4 99 (161 + g))) ∧ s2 82 2 = s4 98 22 ∧ r = Int32.ofInt (s4 98 23) ∧ r.toInt = s4 98 23 ∧ 0 ≤ r.toInt ∧ r.toInt ≤ 255 := by
  rw [a8, a9, a10, a19, a20, a22] at hX
  rw [b1, b99, b100] at hG
  rw [b99] at hM
  obtain ⟨L0, z1, z2⟩ := hX
  obtain ⟨e1, e2, e3, e4⟩ := h.run hI ht hF hG hf z1 z2 hM
  refine ⟨e1, ?_, e3, ?_, e4⟩
  · rw [← g_oft (tf_82_2 I2), e2, g_oft (tf_98_22 I4)]
  · rw [e3, g_oft (tf_98_23 I4)]
theorem c_R.runl {s s' : h_S} (h : c_R true s) (e8 : s' 10 8 = s 10 8) (e9 : s' 10 9 = s 10 9) (e20 : s' 20 = s 20) : g_lk' (s' 10 8) (s' 10 9) (s' 20) := by
  rw [e8, e9, e20]
  intro g a b
  have lw := (h.lw a b).1
  omega
theorem c_R.runp {fl : Bool} {s s' : h_S} (h : c_R fl s) (e8 : s' 10 8 = s 10 8) (e9 : s' 10 9 = s 10 9) (e10 : s' 10 10 = s 10 10) (e22 : s' 22 = s 22) : ∀ i, 0 ≤ i → i < s' 10 10 → 0 ≤ s' 22 i ∧ s' 22 i / 10 < s' 10 8 ∧ s' 22 i % 10 < s' 10 9 := by
  rw [e8, e9, e10, e22]
  intro i a b
  exact (h.pa a b).2
theorem c_R.runm {fl : Bool} {s s' : h_S} (h : c_R fl s) (hI : h_I s) (e99 : s' 99 = s 99) : ∀ i, 0 ≤ i → i < s' 99 43 → 0 ≤ s' 99 (35 + i) ∧ s' 99 (35 + i) / 10 < 6 ∧ s' 99 (35 + i) % 10 < 3 := by
  rw [e99]
  intro i a b
  have sz := h.sz
  have y := h.pa (j := i) a (by omega)
  have t8 := tf_10_8 hI
  have t9 := tf_10_9 hI
  rw [← y.1]
  exact ⟨y.2.1, by omega, by omega⟩
