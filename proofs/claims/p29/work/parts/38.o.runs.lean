/-! HOW MANY BITS, THE FIRST THAT IS NOT -/
def g_bn8 (w : Int32) : Nat → Int
  | 0 => 0
  | m + 1 => g_bn8 w m + g_hb w (m : Int)
theorem g_b8_s {w : Int32} {k b b' : Int} (h : b = g_bn8 w k.toNat) (k0 : 0 ≤ k) (hb : b' = b + g_hb w k) : b' = g_bn8 w (k + 1).toNat := by
  rw [show (k + 1).toNat = k.toNat + 1 by omega]
  show b' = g_bn8 w k.toNat + g_hb w ((k.toNat : Nat) : Int)
  rw [show ((k.toNat : Nat) : Int) = k by omega, ← h]
  exact hb
theorem g_or_8' : ∀ x : Fin 256, ∀ i : Fin 8, 0 ≤ (g_or (Int32.ofInt ((x.val : Nat) : Int)) ((i.val : Nat) : Int)).toInt ∧ (g_or (Int32.ofInt ((x.val : Nat) : Int)) ((i.val : Nat) : Int)).toInt ≤ 255 := by decide +kernel
theorem g_w_8 {w : Int32} (h : 0 ≤ w.toInt) : Int32.ofInt ((w.toInt.toNat : Nat) : Int) = w := by
  rw [show ((w.toInt.toNat : Nat) : Int) = w.toInt by omega, Int32.ofInt_toInt]
theorem g_or_8 {w : Int32} {i : Int} (h : 0 ≤ w.toInt ∧ w.toInt ≤ 255) (hi : 0 ≤ i ∧ i ≤ 7) : 0 ≤ (g_or w i).toInt ∧ (g_or w i).toInt ≤ 255 := by
  have z : 0 ≤ (g_or (Int32.ofInt ((w.toInt.toNat : Nat) : Int)) ((i.toNat : Nat) : Int)).toInt ∧ (g_or (Int32.ofInt ((w.toInt.toNat : Nat) : Int)) ((i.toNat : Nat) : Int)).toInt ≤ 255 := g_or_8' ⟨w.toInt.toNat, by omega⟩ ⟨i.toNat, by omega⟩
  rw [g_w_8 h.1, show ((i.toNat : Nat) : Int) = i by omega] at z
  exact z
theorem g_pf_8 {y : Int → Int → Int → Bool} {aw : Int32} {pl L : Int → Int} : ∀ k : Nat, k ≤ 8 → 0 ≤ ((g_pf y aw pl (L, 0, 0) k).2.2).toInt ∧ ((g_pf y aw pl (L, 0, 0) k).2.2).toInt ≤ 255
  | 0, _ => by
    show 0 ≤ (0 : Int32).toInt ∧ (0 : Int32).toInt ≤ 255
    decide
  | m + 1, h => by
    have z := g_pf_8 (y := y) (aw := aw) (pl := pl) (L := L) m (by omega)
    show 0 ≤ ((g_ps y aw (pl (m : Int)) (m : Int) (g_pf y aw pl (L, 0, 0) m)).2.2).toInt ∧ ((g_ps y aw (pl (m : Int)) (m : Int) (g_pf y aw pl (L, 0, 0) m)).2.2).toInt ≤ 255
    unfold g_ps
    by_cases c : g_hb aw (pl (m : Int) / 10) = 0 ∧ y (pl (m : Int) / 10) ((g_pf y aw pl (L, 0, 0) m).1 (pl (m : Int) % 10)) (pl (m : Int) % 10) = true
    · rw [if_pos c]
      exact g_or_8 z ⟨by omega, by omega⟩
    · rw [if_neg c]
      exact z
theorem g_hb_oi {z v b y : Int32} {x c : Int} (hz : z = v &&& (Int32.ofInt 1)) (hv : v = b >>> (y &&& 31)) (hy : y.toInt = x) (hc : b.toInt = c) : z.toInt = g_hb (Int32.ofInt c) x := by
  rw [g_ofi hc]
  exact g_hb_of hz hv hy
theorem g_hb_r (w : Int32) (x : Int) : 0 ≤ g_hb w x ∧ g_hb w x ≤ 1 := by
  have e : (Int32.ofInt 1).toInt = 1 := by decide
  have z := (h_andP (x := w >>> ((Int32.ofInt x) &&& 31)) (y := Int32.ofInt 1)).2 (by decide)
  rw [e] at z
  exact z
def g_2p (n : Int) : Int := ((Int32.ofInt 1) <<< ((Int32.ofInt n) &&& 31)).toInt
theorem g_2p_of {z y : Int32} {n : Int} (hz : z = (Int32.ofInt 1) <<< (y &&& 31)) (hy : y.toInt = n) : z.toInt = g_2p n := by
  unfold g_2p
  rw [g_ofi hy, hz]
theorem g_2p_b {n : Int} (h0 : 0 ≤ n) (h6 : n ≤ 6) : 1 ≤ g_2p n ∧ g_2p n ≤ 64 := by
  have c : n = 0 ∨ n = 1 ∨ n = 2 ∨ n = 3 ∨ n = 4 ∨ n = 5 ∨ n = 6 := by omega
  rcases c with c | c | c | c | c | c | c <;> subst c <;> decide +kernel
theorem g_b8_r (w : Int32) : ∀ m : Nat, 0 ≤ g_bn8 w m ∧ g_bn8 w m ≤ m
  | 0 => by
    show 0 ≤ (0 : Int) ∧ (0 : Int) ≤ ((0 : Nat) : Int)
    omega
  | m + 1 => by
    have z := g_b8_r w m
    have y := g_hb_r w (m : Int)
    show 0 ≤ g_bn8 w m + g_hb w (m : Int) ∧ g_bn8 w m + g_hb w (m : Int) ≤ ((m + 1 : Nat) : Int)
    omega
set_option maxHeartbeats 100000000 in
theorem n_b8_l (ns : Nat) (σ : h_S) (hI : h_I σ) (x0 : Int32) (a0 : Int) (hx0 : x0.toInt = a0) {Q : Option Value → h_S → Prop} (kk : ∀ (r : Int32) (b : Int) (hb : r.toInt = b), (0 ≤ b ∧ b ≤ 8) → (b = g_bn8 x0 8) → Q (some (.int r)) σ) : ∀ n : Nat, (∀ (y1 : Int32) (b1 : Int), y1.toInt = b1 → (0 ≤ b1 ∧ b1 ≤ 9) → ∀ (y2 : Int32) (b2 : Int), y2.toInt = b2 → (0 ≤ b2 ∧ b2 ≤ 8) → (b1 = g_bn8 x0 b2.toNat) → (0 ≤ b1 ∧ b1 ≤ b2) → (8 + 1 - b2) * 1000000 + 1000000000 ≤ (n : Int) → h_T g_P (g_Y ns) 192 4 [(0, .int x0), (1, .int y1), (2, .int y2)] [] σ Q) := by
  intro n
  induction n with
  | zero => exact by intro  y1 b1 hy1 ry1 y2 b2 hy2 ry2 ex0 ex1 hm; exfalso; omega
  | succ n ih =>
    intro  y1 b1 hy1 ry1 y2 b2 hy2 ry2 ex0 ex1 hm
    refine h_iload_n (pc' := 5) rfl rfl rfl ?_
    refine h_bipush (pc' := 7) (x := (Int32.ofInt 8)) rfl rfl cb_8 ?_
    refine h_cge (tg := 24) (pc' := 10) rfl rfl rfl hy2 ci_8 (fun c1 => ?_) (fun c1 => ?_)
    · refine h_iload_n (pc' := 25) rfl rfl rfl ?_
      exact h_iret rfl rfl (kk _ _ hy1 (by omega) (by rw [show b2 = 8 by omega] at ex0; exact ex0))
    · refine h_iload_n (pc' := 11) rfl rfl rfl ?_
      refine h_iload_n (pc' := 12) rfl rfl rfl ?_
      refine h_iload_n (pc' := 13) rfl rfl rfl ?_
      refine h_ishr (pc' := 14) rfl rfl (fun z2 hz2 => ?_)
      refine h_iconst (pc' := 15) (x := (Int32.ofInt 1)) rfl rfl rfl ?_
      refine h_iand (pc' := 16) rfl rfl (fun z3 hz3 uz3 vz3 => ?_)
      clear uz3
      rw [ci_1] at vz3
      have yz3 := vz3 (by omega)
      refine h_iadd (pc' := 17) rfl rfl hy1 rfl rfl (by omega) (by omega) (fun z4 hz4 => ?_)
      refine h_istore_n (pc' := 18) (M := [(1, .int z4), (0, .int x0), (2, .int y2)]) rfl rfl rfl rfl ?_
      refine h_iinc (pc' := 21) (M := fun z5 => [(2, .int z5), (1, .int z4), (0, .int x0)]) rfl rfl rfl rfl hy2 ci_1 rfl (by omega) (by omega) (fun _ => rfl) (fun z5 hz5 => ?_)
      refine h_goto (pc' := 4) rfl rfl ?_
      exact h_wk [(0, .int x0), (1, .int z4), (2, .int z5)] ⟨rfl, rfl, rfl, trivial⟩ (ih z4 _ hz4 (by omega) z5 _ hz5 (by omega) (by have gz := g_hb_of hz3 hz2 hy2; exact g_b8_s ex0 (by omega) (by omega)) (by omega) (by omega))
set_option maxHeartbeats 100000000 in
theorem n_b8 {ns : Nat} (σ : h_S) (hI : h_I σ) (x0 : Int32) (a0 : Int) (hx0 : x0.toInt = a0) {Q : Option Value → h_S → Prop} (kk : ∀ (r : Int32) (b : Int) (hb : r.toInt = b), (0 ≤ b ∧ b ≤ 8) → (b = g_bn8 x0 8) → Q (some (.int r)) σ) : h_T g_P (g_Y ns) 192 0 [(0, .int x0)] [] σ Q := by
  refine h_iconst (pc' := 1) (x := (Int32.ofInt 0)) rfl rfl rfl ?_
  refine h_istore_n (pc' := 2) (M := [(1, .int (Int32.ofInt 0)), (0, .int x0)]) rfl rfl rfl rfl ?_
  refine h_iconst (pc' := 3) (x := (Int32.ofInt 0)) rfl rfl rfl ?_
  refine h_istore_n (pc' := 4) (M := [(2, .int (Int32.ofInt 0)), (1, .int (Int32.ofInt 0)), (0, .int x0)]) rfl rfl rfl rfl ?_
  exact h_wk [(0, .int x0), (1, .int (Int32.ofInt 0)), (2, .int (Int32.ofInt 0))] ⟨rfl, rfl, rfl, trivial⟩ ((n_b8_l ns σ hI x0 a0 hx0 kk 1000000000000) (Int32.ofInt 0) _ ci_0 (by omega) (Int32.ofInt 0) _ ci_0 (by omega) rfl (by omega) (by omega))
/-! RUNS, AHEAD -/
theorem g_run_eq {np ng nf m na : Int} {F G f c d A B r R l L0 L1 q pl : Int → Int} {aw : Int32} (hd : g_ph np 256 F G) (n6 : np ≤ 6) (hf : g_FX np c d nf f) (hm : m = nf) (hfe : ∀ j, 0 ≤ j → j < nf → c j = A j ∧ d j = B j) (hre : ∀ g, 0 ≤ g → g < ng → r g = R g ∧ r g ≤ 999) (hla : ∀ g, 0 ≤ g → g < ng → l g = L0 g ∧ (l g = -4 ∨ (0 ≤ l g ∧ l g < np))) (hpl : ∀ j, 0 ≤ j → j < na → q j = pl j ∧ 0 ≤ q j ∧ q j / 10 < np ∧ q j % 10 < ng) (hL : g_cq ng l L1) (k : Nat) (hk : (k : Int) ≤ na) : g_pe ng (g_pf (fun p l g => g_yX np F f p l (r g)) aw q (L1, 0, 0) k) (g_pf (fun p l g => g_yM G A B m p l (R g)) aw pl (L0, 0, 0) k) :=
  (g_pf_e (n := np) (ng := ng) (aw := aw) (pl := q) (pl' := pl) (x := (L1, 0, 0)) (x' := (L0, 0, 0)) ⟨fun g a b => (hL g a b).trans (hla g a b).1, rfl, rfl⟩ (fun g a b => by
    have z := (hla g a b).2
    rw [← hL g a b] at z
    exact z) (fun p l g p0 p1 g0 g1 hl => by
    have z := hre g g0 g1
    show g_yX np F f p l (r g) = g_yM G A B m p l (R g)
    rw [← z.1]
    exact g_y_eq hd n6 hf hm hfe hl p0 p1 z.2) k (fun i a b => hpl i a (by omega))).1
theorem c_R.run {s : h_S} {F G f L1 X84 S : Int → Int} {aw r : Int32} {x82 c t : Int} (h : c_R true s) (hI : h_I s) (ht : g_ti s) (hF : g_DX (s 10 8) (s 12) (s 11) (s 13 2) (s 14) (s 15) F) (hG : g_DM (s 98 1) (s 99 18) (s 99) (s 100) G) (hf : g_FX (s 10 8) (s 17) (s 18) (s 16 2) f) (hL : g_cq (s 10 9) (s 20) L1) (hX : (X84, Int32.ofInt x82, r) = g_pf (fun p l g => g_yX (s 10 8) F f p l (s 19 g)) aw (s 22) (L1, 0, 0) (s 10 10).toNat) (hM : g_pmI (fun p l g => g_yM G (fun i => s 99 (19 + 2 * i)) (fun i => s 99 (19 + 2 * i + 1)) (s 99 25) p l (s 99 (26 + g))) aw (fun i => s 99 (35 + i)) (fun g => g_orn (s 99 (29 + g))) (s 99 43) S c t) : (∀ g, 0 ≤ g → g < s 10 9 → X84 g = g_orn (S (161 + g))) ∧ Int32.ofInt x82 = Int32.ofInt c ∧ r = Int32.ofInt t ∧ 0 ≤ r.toInt ∧ r.toInt ≤ 255 := by
  have gd := h.deg hI ht hF hG
  have sz := h.sz
  have t8 := tf_10_8 hI
  have t9 := tf_10_9 hI
  have t10 := tf_10_10 hI
  obtain ⟨m1, m2, m3⟩ := hM
  have e := g_run_eq (aw := aw) (A := fun i => s 99 (19 + 2 * i)) (B := fun i => s 99 (19 + 2 * i + 1)) (R := fun g => s 99 (26 + g)) (r := s 19) (l := s 20) (L0 := fun g => g_orn (s 99 (29 + g))) (q := s 22) (pl := fun i => s 99 (35 + i)) (na := s 10 10) (ng := s 10 9) gd t8.2 hf sz.2.2.2.2.symm (fun j a b => ⟨(h.fe a b).1, (h.fe a b).2.1⟩) (fun g a b => ⟨h.rc a b, by have y := ty_19 hI g; omega⟩) (fun g a b => by
    have lw := (h.lw a b).1
    refine ⟨?_, by omega⟩
    show s 20 g = g_orn (s 99 (29 + g))
    exact g_orn_of (by omega)) (fun j a b => h.pa a b) hL (s 10 10).toNat (by omega)
  have z8 := g_pf_8 (y := fun p l g => g_yX (s 10 8) F f p l (s 19 g)) (aw := aw) (pl := s 22) (L := L1) (s 10 10).toNat (by omega)
  rw [← sz.2.2.1] at m1 m2 m3
  rw [← hX] at e z8
  obtain ⟨e1, e2, e3⟩ := e
  exact ⟨fun g a b => (e1 g a b).trans (m1 g a (by omega)).symm, e2.trans m2.symm, e3.trans m3.symm, z8⟩
theorem c_R.runl {s s' : h_S} (h : c_R true s) (e8 : s' 10 8 = s 10 8) (e9 : s' 10 9 = s 10 9) (e20 : s' 20 = s 20) : g_lk' (s' 10 8) (s' 10 9) (s' 20) := by
  rw [e8, e9, e20]
  intro g a b
  have lw := (h.lw a b).1
  omega
theorem c_R.runp {fl : Bool} {s s' : h_S} (h : c_R fl s) (e8 : s' 10 8 = s 10 8) (e9 : s' 10 9 = s 10 9) (e10 : s' 10 10 = s 10 10) (e22 : s' 22 = s 22) : ∀ i, 0 ≤ i → i < s' 10 10 → 0 ≤ s' 22 i ∧ s' 22 i / 10 < s' 10 8 ∧ s' 22 i % 10 < s' 10 9 := by
  rw [e8, e9, e10, e22]
  intro i a b
  exact (h.pa a b).2
theorem c_R.runm {fl : Bool} {s s' : h_S} (h : c_R fl s) (hI : h_I s) (e99 : s' 99 = s 99) : ∀ i, 0 ≤ i → i < s' 99 43 → 0 ≤ s' 99 (35 + i) ∧ s' 99 (35 + i) / 10 < 6 ∧ s' 99 (35 + i) % 10 < 3 := by
  rw [e99]
  intro i a b
  have sz := h.sz
  have y := h.pa (j := i) a (by omega)
  have t8 := tf_10_8 hI
  have t9 := tf_10_9 hI
  rw [← y.1]
  exact ⟨y.2.1, by omega, by omega⟩
theorem g_pf_t (P : (Int → Int) × Int32 × Int32) : (P.1, Int32.ofInt P.2.1.toInt, P.2.2) = P := by
  obtain ⟨a, b, c⟩ := P
  show (a, Int32.ofInt b.toInt, c) = (a, b, c)
  rw [Int32.ofInt_toInt]
theorem g_run_c {y : Int → Int → Int → Bool} {aw c r : Int32} {X q l : Int → Int} {n ng na : Int} (hX : ∃ L0, g_cq ng l L0 ∧ (X, c, r) = g_pf y aw q (L0, 0, 0) na.toNat) (hl : g_lk' n ng l) (hq : ∀ i, 0 ≤ i → i < na → 0 ≤ q i ∧ q i / 10 < n ∧ q i % 10 < ng) : c = (g_pf y aw q (l, 0, 0) na.toNat).2.1 ∧ r = (g_pf y aw q (l, 0, 0) na.toNat).2.2 := by
  obtain ⟨L0, z1, z2⟩ := hX
  have e := (g_pf_e (n := n) (ng := ng) (y := y) (y' := y) (aw := aw) (pl := q) (pl' := q) (x := (L0, 0, 0)) (x' := (l, 0, 0)) ⟨z1, rfl, rfl⟩ (fun g a b => by
    have z := hl g a b
    rw [← z1 g a b] at z
    exact z) (fun _ _ _ _ _ _ _ _ => rfl) na.toNat (fun i a b => ⟨rfl, hq i a (by omega)⟩)).1
  rw [← z2] at e
  exact ⟨e.2.1, e.2.2⟩
