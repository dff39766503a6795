/-! HOW MANY BITS, THE FIRST THAT IS NOT -/
def g_us (x y : Int32) : Int32 := (x.toUInt32 >>> (y.toUInt32 &&& Int32.toUInt32 31)).toInt32
def g_bc1 (x : Int32) : Int32 := x - (g_us x (Int32.ofInt 1) &&& Int32.ofInt 1431655765)
def g_bc2 (a : Int32) : Int32 := (a &&& Int32.ofInt 858993459) + (g_us a (Int32.ofInt 2) &&& Int32.ofInt 858993459)
def g_bc3 (a : Int32) : Int32 := (a + g_us a (Int32.ofInt 4)) &&& Int32.ofInt 252645135
def g_bc4 (a : Int32) : Int32 := a + g_us a (Int32.ofInt 8)
def g_bc5 (a : Int32) : Int32 := a + g_us a (Int32.ofInt 16)
def g_bc (x : Int32) : Int32 := g_bc5 (g_bc4 (g_bc3 (g_bc2 (g_bc1 x)))) &&& Int32.ofInt 63
theorem g_bc_p {x y : Int32} {a b : Int} {z : Int32} (hz : z.toInt = a + b) (hx : x.toInt = a) (hy : y.toInt = b) : z = x + y := by
  rw [← g_ofi hz, Int32.ofInt_add, g_ofi hx, g_ofi hy]
def g_bn8 (w : Int32) : Nat → Int
  | 0 => 0
  | m + 1 => g_bn8 w m + g_hb w (m : Int)
theorem g_b8_s {w : Int32} {k b b' : Int} (h : b = g_bn8 w k.toNat) (k0 : 0 ≤ k) (hb : b' = b + g_hb w k) : b' = g_bn8 w (k + 1).toNat := by
  rw [show (k + 1).toNat = k.toNat + 1 by omega]
  show b' = g_bn8 w k.toNat + g_hb w ((k.toNat : Nat) : Int)
  rw [show ((k.toNat : Nat) : Int) = k by omega, ← h]
  exact hb
theorem g_bc_8' : ∀ x : Fin 256, (g_bc (Int32.ofInt ((x.val : Nat) : Int))).toInt = g_bn8 (Int32.ofInt ((x.val : Nat) : Int)) 8 := by decide +kernel
theorem g_or_8' : ∀ x : Fin 256, ∀ i : Fin 8, 0 ≤ (g_or (Int32.ofInt ((x.val : Nat) : Int)) ((i.val : Nat) : Int)).toInt ∧ (g_or (Int32.ofInt ((x.val : Nat) : Int)) ((i.val : Nat) : Int)).toInt ≤ 255 := by decide +kernel
theorem g_w_8 {w : Int32} (h : 0 ≤ w.toInt) : Int32.ofInt ((w.toInt.toNat : Nat) : Int) = w := by
  rw [show ((w.toInt.toNat : Nat) : Int) = w.toInt by omega, Int32.ofInt_toInt]
theorem g_bc_8 {w : Int32} (h : 0 ≤ w.toInt ∧ w.toInt ≤ 255) : (g_bc w).toInt = g_bn8 w 8 := by
  have z : (g_bc (Int32.ofInt ((w.toInt.toNat : Nat) : Int))).toInt = g_bn8 (Int32.ofInt ((w.toInt.toNat : Nat) : Int)) 8 := g_bc_8' ⟨w.toInt.toNat, by omega⟩
  rw [g_w_8 h.1] at z
  exact z
theorem g_or_8 {w : Int32} {i : Int} (h : 0 ≤ w.toInt ∧ w.toInt ≤ 255) (hi : 0 ≤ i ∧ i ≤ 7) : 0 ≤ (g_or w i).toInt ∧ (g_or w i).toInt ≤ 255 := by
  have z : 0 ≤ (g_or (Int32.ofInt ((w.toInt.toNat : Nat) : Int)) ((i.toNat : Nat) : Int)).toInt ∧ (g_or (Int32.ofInt ((w.toInt.toNat : Nat) : Int)) ((i.toNat : Nat) : Int)).toInt ≤ 255 := g_or_8' ⟨w.toInt.toNat, by omega⟩ ⟨i.toNat, by omega⟩
  rw [g_w_8 h.1, show ((i.toNat : Nat) : Int) = i by omega] at z
  exact z
theorem g_pf_8 {y : Int → Int → Int → Bool} {aw : Int32} {pl L : Int → Int} : ∀ k : Nat, k ≤ 8 → 0 ≤ ((g_pf y aw pl (L, 0, 0) k).2.2).toInt ∧ ((g_pf y aw pl (L, 0, 0) k).2.2).toInt ≤ 255
  | 0, _ => by
    show 0 ≤ (0 : Int32).toInt ∧ (0 : Int32).toInt ≤ 255
    decide
  | m + 1, h => by
    have z := g_pf_8 (y := y) (aw := aw) (pl := pl) (L := L) m (by omega)
    show 0 ≤ ((g_ps y aw (pl (m : Int)) (m : Int) (g_pf y aw pl (L, 0, 0) m)).2.2).toInt ∧ ((g_ps y aw (pl (m : Int)) (m : Int) (g_pf y aw pl (L, 0, 0) m)).2.2).toInt ≤ 255
    unfold g_ps
    by_cases c : g_hb aw (pl (m : Int) / 10) = 0 ∧ y (pl (m : Int) / 10) ((g_pf y aw pl (L, 0, 0) m).1 (pl (m : Int) % 10)) (pl (m : Int) % 10) = true
    · rw [if_pos c]
      exact g_or_8 z ⟨by omega, by omega⟩
    · rw [if_neg c]
      exact z
theorem g_hb_oi {z v b y : Int32} {x c : Int} (hz : z = v &&& (Int32.ofInt 1)) (hv : v = b >>> (y &&& 31)) (hy : y.toInt = x) (hc : b.toInt = c) : z.toInt = g_hb (Int32.ofInt c) x := by
  rw [g_ofi hc]
  exact g_hb_of hz hv hy
theorem g_hb_r (w : Int32) (x : Int) : 0 ≤ g_hb w x ∧ g_hb w x ≤ 1 := by
  have e : (Int32.ofInt 1).toInt = 1 := by decide
  have z := (h_andP (x := w >>> ((Int32.ofInt x) &&& 31)) (y := Int32.ofInt 1)).2 (by decide)
  rw [e] at z
  exact z
theorem g_if_1 {c : Bool} {b : Int} (h : c = true) (hb : b = 1) : b = if c = true then 1 else 0 := by rw [if_pos h, hb]
theorem g_if_0 {c : Bool} {b : Int} (h : c = false) (hb : b = 0) : b = if c = true then 1 else 0 := by rw [h, hb]; rfl
theorem g_if_y {c : Bool} {b : Int} (h : b = if c = true then 1 else 0) (hb : ¬ b = 0) : c = true := by
  by_cases z : c = true
  · exact z
  · rw [if_neg z] at h
    exact absurd h hb
theorem g_if_n {c : Bool} {b : Int} (h : b = if c = true then 1 else 0) (hb : b = 0) : c = false := by
  by_cases z : c = true
  · rw [if_pos z] at h
    omega
  · exact Bool.eq_false_iff.mpr z
theorem g_b8_r (w : Int32) : ∀ m : Nat, 0 ≤ g_bn8 w m ∧ g_bn8 w m ≤ m
  | 0 => by
    show 0 ≤ (0 : Int) ∧ (0 : Int) ≤ ((0 : Nat) : Int)
    omega
  | m + 1 => by
    have z := g_b8_r w m
    have y := g_hb_r w (m : Int)
    show 0 ≤ g_bn8 w m + g_hb w (m : Int) ∧ g_bn8 w m + g_hb w (m : Int) ≤ ((m + 1 : Nat) : Int)
    omega
set_option maxHeartbeats 100000000 in
theorem n_bc {ns : Nat} (σ : h_S) (hI : h_I σ) (x0 : Int32) (a0 : Int) (hx0 : x0.toInt = a0) {Q : Option Value → h_S → Prop} (kk : ∀ (r : Int32) (b : Int) (hb : r.toInt = b), (0 ≤ b ∧ b ≤ 63) → (r = g_bc x0) → Q (some (.int r)) σ) : h_T g_P (g_Y ns) 226 0 [(0, .int x0)] [] σ Q := by
  refine h_iload_n (pc' := 1) rfl rfl rfl ?_
  refine h_iload_n (pc' := 2) rfl rfl rfl ?_
  refine h_iconst (pc' := 3) (x := (Int32.ofInt 1)) rfl rfl rfl ?_
  refine h_iushr (pc' := 4) rfl rfl (fun z1 hz1 => ?_)
  refine h_ldcw (pc' := 7) (x := (Int32.ofInt 1431655765)) rfl rfl rfl ?_
  refine h_iand (pc' := 8) rfl rfl (fun z2 hz2 uz2 vz2 => ?_)
  clear uz2
  rw [ci_1431655765] at vz2
  have yz2 := vz2 (by omega)
  refine h_isubA (pc' := 9) rfl rfl (fun z3 hz3 => ?_)
  refine h_istore_n (pc' := 10) (M := [(0, .int z3)]) rfl rfl rfl rfl ?_
  refine h_iload_n (pc' := 11) rfl rfl rfl ?_
  refine h_ldcw (pc' := 14) (x := (Int32.ofInt 858993459)) rfl rfl rfl ?_
  refine h_iand (pc' := 15) rfl rfl (fun z4 hz4 uz4 vz4 => ?_)
  clear uz4
  rw [ci_858993459] at vz4
  have yz4 := vz4 (by omega)
  refine h_iload_n (pc' := 16) rfl rfl rfl ?_
  refine h_iconst (pc' := 17) (x := (Int32.ofInt 2)) rfl rfl rfl ?_
  refine h_iushr (pc' := 18) rfl rfl (fun z5 hz5 => ?_)
  refine h_ldcw (pc' := 21) (x := (Int32.ofInt 858993459)) rfl rfl rfl ?_
  refine h_iand (pc' := 22) rfl rfl (fun z6 hz6 uz6 vz6 => ?_)
  clear uz6
  rw [ci_858993459] at vz6
  have yz6 := vz6 (by omega)
  refine h_iadd (pc' := 23) rfl rfl rfl rfl rfl (by omega) (by omega) (fun z7 hz7 => ?_)
  refine h_istore_n (pc' := 24) (M := [(0, .int z7)]) rfl rfl rfl rfl ?_
  refine h_iload_n (pc' := 25) rfl rfl rfl ?_
  refine h_iload_n (pc' := 26) rfl rfl rfl ?_
  refine h_iconst (pc' := 27) (x := (Int32.ofInt 4)) rfl rfl rfl ?_
  refine h_iushr (pc' := 28) rfl rfl (fun z8 hz8 => ?_)
  refine h_iaddA (pc' := 29) rfl rfl (fun z9 hz9 => ?_)
  refine h_ldcw (pc' := 32) (x := (Int32.ofInt 252645135)) rfl rfl rfl ?_
  refine h_iand (pc' := 33) rfl rfl (fun z10 hz10 uz10 vz10 => ?_)
  clear uz10
  rw [ci_252645135] at vz10
  have yz10 := vz10 (by omega)
  refine h_istore_n (pc' := 34) (M := [(0, .int z10)]) rfl rfl rfl rfl ?_
  refine h_iload_n (pc' := 35) rfl rfl rfl ?_
  refine h_iload_n (pc' := 36) rfl rfl rfl ?_
  refine h_bipush (pc' := 38) (x := (Int32.ofInt 8)) rfl rfl cb_8 ?_
  refine h_iushr (pc' := 39) rfl rfl (fun z11 hz11 => ?_)
  refine h_iaddA (pc' := 40) rfl rfl (fun z12 hz12 => ?_)
  refine h_istore_n (pc' := 41) (M := [(0, .int z12)]) rfl rfl rfl rfl ?_
  refine h_iload_n (pc' := 42) rfl rfl rfl ?_
  refine h_iload_n (pc' := 43) rfl rfl rfl ?_
  refine h_bipush (pc' := 45) (x := (Int32.ofInt 16)) rfl rfl cb_16 ?_
  refine h_iushr (pc' := 46) rfl rfl (fun z13 hz13 => ?_)
  refine h_iaddA (pc' := 47) rfl rfl (fun z14 hz14 => ?_)
  refine h_istore_n (pc' := 48) (M := [(0, .int z14)]) rfl rfl rfl rfl ?_
  refine h_iload_n (pc' := 49) rfl rfl rfl ?_
  refine h_bipush (pc' := 51) (x := (Int32.ofInt 63)) rfl rfl cb_63 ?_
  refine h_iand (pc' := 52) rfl rfl (fun z15 hz15 uz15 vz15 => ?_)
  clear uz15
  rw [ci_63] at vz15
  have yz15 := vz15 (by omega)
  exact h_iret rfl rfl (kk _ _ rfl (by omega) (by have e7 : z7 = z4 + z6 := g_bc_p hz7 rfl rfl; rw [hz15, hz14, hz13, hz12, hz11, hz10, hz9, hz8, e7, hz6, hz5, hz4, hz3, hz2, hz1]; rfl))
set_option maxHeartbeats 100000000 in
theorem n_b8_l (ns : Nat) (σ : h_S) (hI : h_I σ) (x0 : Int32) (a0 : Int) (hx0 : x0.toInt = a0) {Q : Option Value → h_S → Prop} (kk : ∀ (r : Int32) (b : Int) (hb : r.toInt = b), (0 ≤ b ∧ b ≤ 8) → (b = g_bn8 x0 8) → Q (some (.int r)) σ) : ∀ n : Nat, (∀ (y1 : Int32) (b1 : Int), y1.toInt = b1 → (0 ≤ b1 ∧ b1 ≤ 9) → ∀ (y2 : Int32) (b2 : Int), y2.toInt = b2 → (0 ≤ b2 ∧ b2 ≤ 8) → (b1 = g_bn8 x0 b2.toNat) → (0 ≤ b1 ∧ b1 ≤ b2) → (8 + 1 - b2) * 1000000 + 1000000000 ≤ (n : Int) → h_T g_P (g_Y ns) 192 4 [(0, .int x0), (1, .int y1), (2, .int y2)] [] σ Q) := by
  intro n
  induction n with
  | zero => exact by intro  y1 b1 hy1 ry1 y2 b2 hy2 ry2 ex0 ex1 hm; exfalso; omega
  | succ n ih =>
    intro  y1 b1 hy1 ry1 y2 b2 hy2 ry2 ex0 ex1 hm
    refine h_iload_n (pc' := 5) rfl rfl rfl ?_
    refine h_bipush (pc' := 7) (x := (Int32.ofInt 8)) rfl rfl cb_8 ?_
    refine h_cge (tg := 24) (pc' := 10) rfl rfl rfl hy2 ci_8 (fun c1 => ?_) (fun c1 => ?_)
    · refine h_iload_n (pc' := 25) rfl rfl rfl ?_
      exact h_iret rfl rfl (kk _ _ hy1 (by omega) (by rw [show b2 = 8 by omega] at ex0; exact ex0))
    · refine h_iload_n (pc' := 11) rfl rfl rfl ?_
      refine h_iload_n (pc' := 12) rfl rfl rfl ?_
      refine h_iload_n (pc' := 13) rfl rfl rfl ?_
      refine h_ishr (pc' := 14) rfl rfl (fun z2 hz2 => ?_)
      refine h_iconst (pc' := 15) (x := (Int32.ofInt 1)) rfl rfl rfl ?_
      refine h_iand (pc' := 16) rfl rfl (fun z3 hz3 uz3 vz3 => ?_)
      clear uz3
      rw [ci_1] at vz3
      have yz3 := vz3 (by omega)
      refine h_iadd (pc' := 17) rfl rfl hy1 rfl rfl (by omega) (by omega) (fun z4 hz4 => ?_)
      refine h_istore_n (pc' := 18) (M := [(1, .int z4), (0, .int x0), (2, .int y2)]) rfl rfl rfl rfl ?_
      refine h_iinc (pc' := 21) (M := fun z5 => [(2, .int z5), (1, .int z4), (0, .int x0)]) rfl rfl rfl rfl hy2 ci_1 rfl (by omega) (by omega) (fun _ => rfl) (fun z5 hz5 => ?_)
      refine h_goto (pc' := 4) rfl rfl ?_
      exact h_wk [(0, .int x0), (1, .int z4), (2, .int z5)] ⟨rfl, rfl, rfl, trivial⟩ (ih z4 _ hz4 (by omega) z5 _ hz5 (by omega) (by have gz := g_hb_of hz3 hz2 hy2; exact g_b8_s ex0 (by omega) (by omega)) (by omega) (by omega))
set_option maxHeartbeats 100000000 in
theorem n_b8 {ns : Nat} (σ : h_S) (hI : h_I σ) (x0 : Int32) (a0 : Int) (hx0 : x0.toInt = a0) {Q : Option Value → h_S → Prop} (kk : ∀ (r : Int32) (b : Int) (hb : r.toInt = b), (0 ≤ b ∧ b ≤ 8) → (b = g_bn8 x0 8) → Q (some (.int r)) σ) : h_T g_P (g_Y ns) 192 0 [(0, .int x0)] [] σ Q := by
  refine h_iconst (pc' := 1) (x := (Int32.ofInt 0)) rfl rfl rfl ?_
  refine h_istore_n (pc' := 2) (M := [(1, .int (Int32.ofInt 0)), (0, .int x0)]) rfl rfl rfl rfl ?_
  refine h_iconst (pc' := 3) (x := (Int32.ofInt 0)) rfl rfl rfl ?_
  refine h_istore_n (pc' := 4) (M := [(2, .int (Int32.ofInt 0)), (1, .int (Int32.ofInt 0)), (0, .int x0)]) rfl rfl rfl rfl ?_
  exact h_wk [(0, .int x0), (1, .int (Int32.ofInt 0)), (2, .int (Int32.ofInt 0))] ⟨rfl, rfl, rfl, trivial⟩ ((n_b8_l ns σ hI x0 a0 hx0 kk 1000000000000) (Int32.ofInt 0) _ ci_0 (by omega) (Int32.ofInt 0) _ ci_0 (by omega) rfl (by omega) (by omega))
/-! RUNS, AHEAD -/
theorem g_run_eq {np ng nf m na : Int} {F G f c d A B r R l L0 L1 q pl : Int → Int} {aw : Int32} (hd : g_ph np 256 F G) (n6 : np ≤ 6) (hf : g_FX np c d nf f) (hm : m = nf) (hfe : ∀ j, 0 ≤ j → j < nf → c j = A j ∧ d j = B j) (hre : ∀ g, 0 ≤ g → g < ng → r g = R g ∧ r g ≤ 999) (hla : ∀ g, 0 ≤ g → g < ng → l g = L0 g ∧ (l g = -4 ∨ (0 ≤ l g ∧ l g < np))) (hpl : ∀ j, 0 ≤ j → j < na → q j = pl j ∧ 0 ≤ q j ∧ q j / 10 < np ∧ q j % 10 < ng) (hL : g_cq ng l L1) (k : Nat) (hk : (k : Int) ≤ na) : g_pe ng (g_pf (fun p l g => g_yX np F f p l (r g)) aw q (L1, 0, 0) k) (g_pf (fun p l g => g_yM G A B m p l (R g)) aw pl (L0, 0, 0) k) :=
  (g_pf_e (n := np) (ng := ng) (aw := aw) (pl := q) (pl' := pl) (x := (L1, 0, 0)) (x' := (L0, 0, 0)) ⟨fun g a b => (hL g a b).trans (hla g a b).1, rfl, rfl⟩ (fun g a b => by
    have z := (hla g a b).2
    rw [← hL g a b] at z
    exact z) (fun p l g p0 p1 g0 g1 hl => by
    have z := hre g g0 g1
    show g_yX np F f p l (r g) = g_yM G A B m p l (R g)
    rw [← z.1]
    exact g_y_eq hd n6 hf hm hfe hl p0 p1 z.2) k (fun i a b => hpl i a (by omega))).1
theorem g_oft {t : Int} (h : -2147483648 ≤ t ∧ t ≤ 2147483647) : (Int32.ofInt t).toInt = t := by
  first | exact Int32.toInt_ofInt_of_le (by omega) (by omega) | (rw [Int32.toInt_ofInt]; exact h_bm h.1 h.2)
theorem c_R.runl {s s' : h_S} (h : c_R true s) (e8 : s' 10 8 = s 10 8) (e9 : s' 10 9 = s 10 9) (e20 : s' 20 = s 20) : g_lk' (s' 10 8) (s' 10 9) (s' 20) := by
  rw [e8, e9, e20]
  intro g a b
  have lw := (h.lw a b).1
  omega
theorem c_R.runp {fl : Bool} {s s' : h_S} (h : c_R fl s) (e8 : s' 10 8 = s 10 8) (e9 : s' 10 9 = s 10 9) (e10 : s' 10 10 = s 10 10) (e22 : s' 22 = s 22) : ∀ i, 0 ≤ i → i < s' 10 10 → 0 ≤ s' 22 i ∧ s' 22 i / 10 < s' 10 8 ∧ s' 22 i % 10 < s' 10 9 := by
  rw [e8, e9, e10, e22]
  intro i a b
  exact (h.pa a b).2
theorem c_R.runm {fl : Bool} {s s' : h_S} (h : c_R fl s) (hI : h_I s) (e99 : s' 99 = s 99) : ∀ i, 0 ≤ i → i < s' 99 43 → 0 ≤ s' 99 (35 + i) ∧ s' 99 (35 + i) / 10 < 6 ∧ s' 99 (35 + i) % 10 < 3 := by
  rw [e99]
  intro i a b
  have sz := h.sz
  have y := h.pa (j := i) a (by omega)
  have t8 := tf_10_8 hI
  have t9 := tf_10_9 hI
  rw [← y.1]
  exact ⟨y.2.1, by omega, by omega⟩
theorem g_run_c {y : Int → Int → Int → Bool} {aw c r : Int32} {X q l : Int → Int} {n ng na : Int} (hX : ∃ L0, g_cq ng l L0 ∧ (X, c, r) = g_pf y aw q (L0, 0, 0) na.toNat) (hl : g_lk' n ng l) (hq : ∀ i, 0 ≤ i → i < na → 0 ≤ q i ∧ q i / 10 < n ∧ q i % 10 < ng) : c = (g_pf y aw q (l, 0, 0) na.toNat).2.1 ∧ r = (g_pf y aw q (l, 0, 0) na.toNat).2.2 := by
  obtain ⟨L0, z1, z2⟩ := hX
  have e := (g_pf_e (n := n) (ng := ng) (y := y) (y' := y) (aw := aw) (pl := q) (pl' := q) (x := (L0, 0, 0)) (x' := (l, 0, 0)) ⟨z1, rfl, rfl⟩ (fun g a b => by
    have z := hl g a b
    rw [← z1 g a b] at z
    exact z) (fun _ _ _ _ _ _ _ _ => rfl) na.toNat (fun i a b => ⟨rfl, hq i a (by omega)⟩)).1
  rw [← z2] at e
  exact ⟨e.2.1, e.2.2⟩
