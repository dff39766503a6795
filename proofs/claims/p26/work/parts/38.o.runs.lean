/-! HOW MANY BITS, THE FIRST THAT IS NOT -/
def g_us (x y : Int32) : Int32 := (x.toUInt32 >>> (y.toUInt32 &&& Int32.toUInt32 31)).toInt32
def g_bc1 (x : Int32) : Int32 := x - (g_us x (Int32.ofInt 1) &&& Int32.ofInt 1431655765)
def g_bc2 (a : Int32) : Int32 := (a &&& Int32.ofInt 858993459) + (g_us a (Int32.ofInt 2) &&& Int32.ofInt 858993459)
def g_bc3 (a : Int32) : Int32 := (a + g_us a (Int32.ofInt 4)) &&& Int32.ofInt 252645135
def g_bc4 (a : Int32) : Int32 := a + g_us a (Int32.ofInt 8)
def g_bc5 (a : Int32) : Int32 := a + g_us a (Int32.ofInt 16)
def g_bc (x : Int32) : Int32 := g_bc5 (g_bc4 (g_bc3 (g_bc2 (g_bc1 x)))) &&& Int32.ofInt 63
theorem g_bc_p {x y : Int32} {a b : Int} {z : Int32} (hz : z.toInt = a + b) (hx : x.toInt = a) (hy : y.toInt = b) : z = x + y := by
  rw [← g_ofi hz, Int32.ofInt_add, g_ofi hx, g_ofi hy]
def g_bn8 (w : Int32) : Nat → Int
  | 0 => 0
  | m + 1 => g_bn8 w m + g_hb w (m : Int)
theorem g_b8_s {w : Int32} {k b b' : Int} (h : b = g_bn8 w k.toNat) (k0 : 0 ≤ k) (hb : b' = b + g_hb w k) : b' = g_bn8 w (k + 1).toNat := by
  rw [show (k + 1).toNat = k.toNat + 1 by omega]
  show b' = g_bn8 w k.toNat + g_hb w ((k.toNat : Nat) : Int)
  rw [show ((k.toNat : Nat) : Int) = k by omega, ← h]
  exact hb
theorem g_bc_8' : ∀ x : Fin 256, (g_bc (Int32.ofInt ((x.val : Nat) : Int))).toInt = g_bn8 (Int32.ofInt ((x.val : Nat) : Int)) 8 := by decide +kernel
theorem g_or_8' : ∀ x : Fin 256, ∀ i : Fin 8, 0 ≤ (g_or (Int32.ofInt ((x.val : Nat) : Int)) ((i.val : Nat) : Int)).toInt ∧ (g_or (Int32.ofInt ((x.val : Nat) : Int)) ((i.val : Nat) : Int)).toInt ≤ 255 := by decide +kernel
theorem g_w_8 {w : Int32} (h : 0 ≤ w.toInt) : Int32.ofInt ((w.toInt.toNat : Nat) : Int) = w := by
  rw [show ((w.toInt.toNat : Nat) : Int) = w.toInt by omega, Int32.ofInt_toInt]
theorem g_bc_8 {w : Int32} (h : 0 ≤ w.toInt ∧ w.toInt ≤ 255) : (g_bc w).toInt = g_bn8 w 8 := by
  have z : (g_bc (Int32.ofInt ((w.toInt.toNat : Nat) : Int))).toInt = g_bn8 (Int32.ofInt ((w.toInt.toNat : Nat) : Int)) 8 := g_bc_8' ⟨w.toInt.toNat, by omega⟩
  rw [g_w_8 h.1] at z
  exact z
theorem g_or_8 {w : Int32} {i : Int} (h : 0 ≤ w.toInt ∧ w.toInt ≤ 255) (hi : 0 ≤ i ∧ i ≤ 7) : 0 ≤ (g_or w i).toInt ∧ (g_or w i).toInt ≤ 255 := by
  have z : 0 ≤ (g_or (Int32.ofInt ((w.toInt.toNat : Nat) : Int)) ((i.toNat : Nat) : Int)).toInt ∧ (g_or (Int32.ofInt ((w.toInt.toNat : Nat) : Int)) ((i.toNat : Nat) : Int)).toInt ≤ 255 := g_or_8' ⟨w.toInt.toNat, by omega⟩ ⟨i.toNat, by omega⟩
  rw [g_w_8 h.1, show ((i.toNat : Nat) : Int) = i by omega] at z
  exact z
set_option maxHeartbeats 100000000 in
theorem n_bc {ns : Nat} (σ : h_S) (hI : h_I σ) (x0 : Int32) (a0 : Int) (hx0 : x0.toInt = a0) {Q : Option Value → h_S → Prop} (kk : ∀ (r : Int32) (b : Int) (hb : r.toInt = b), (0 ≤ b ∧ b ≤ 63) → (r = g_bc x0) → Q (some (.int r)) σ) : h_T g_P (g_Y ns) 226 0 [(0, .int x0)] [] σ Q := by
  refine h_iload_n (pc' := 1) rfl rfl rfl ?_
  refine h_iload_n (pc' := 2) rfl rfl rfl ?_
  refine h_iconst (pc' := 3) (x := (Int32.ofInt 1)) rfl rfl rfl ?_
  refine h_iushr (pc' := 4) rfl rfl (fun z1 hz1 => ?_)
  refine h_ldcw (pc' := 7) (x := (Int32.ofInt 1431655765)) rfl rfl rfl ?_
  refine h_iand (pc' := 8) rfl rfl (fun z2 hz2 uz2 vz2 => ?_)
  clear uz2
  rw [ci_1431655765] at vz2
  have yz2 := vz2 (by omega)
  refine h_isubA (pc' := 9) rfl rfl (fun z3 hz3 => ?_)
  refine h_istore_n (pc' := 10) (M := [(0, .int z3)]) rfl rfl rfl rfl ?_
  refine h_iload_n (pc' := 11) rfl rfl rfl ?_
  refine h_ldcw (pc' := 14) (x := (Int32.ofInt 858993459)) rfl rfl rfl ?_
  refine h_iand (pc' := 15) rfl rfl (fun z4 hz4 uz4 vz4 => ?_)
  clear uz4
  rw [ci_858993459] at vz4
  have yz4 := vz4 (by omega)
  refine h_iload_n (pc' := 16) rfl rfl rfl ?_
  refine h_iconst (pc' := 17) (x := (Int32.ofInt 2)) rfl rfl rfl ?_
  refine h_iushr (pc' := 18) rfl rfl (fun z5 hz5 => ?_)
  refine h_ldcw (pc' := 21) (x := (Int32.ofInt 858993459)) rfl rfl rfl ?_
  refine h_iand (pc' := 22) rfl rfl (fun z6 hz6 uz6 vz6 => ?_)
  clear uz6
  rw [ci_858993459] at vz6
  have yz6 := vz6 (by omega)
  refine h_iadd (pc' := 23) rfl rfl rfl rfl rfl (by omega) (by omega) (fun z7 hz7 => ?_)
  refine h_istore_n (pc' := 24) (M := [(0, .int z7)]) rfl rfl rfl rfl ?_
  refine h_iload_n (pc' := 25) rfl rfl rfl ?_
  refine h_iload_n (pc' := 26) rfl rfl rfl ?_
  refine h_iconst (pc' := 27) (x := (Int32.ofInt 4)) rfl rfl rfl ?_
  refine h_iushr (pc' := 28) rfl rfl (fun z8 hz8 => ?_)
  refine h_iaddA (pc' := 29) rfl rfl (fun z9 hz9 => ?_)
  refine h_ldcw (pc' := 32) (x := (Int32.ofInt 252645135)) rfl rfl rfl ?_
  refine h_iand (pc' := 33) rfl rfl (fun z10 hz10 uz10 vz10 => ?_)
  clear uz10
  rw [ci_252645135] at vz10
  have yz10 := vz10 (by omega)
  refine h_istore_n (pc' := 34) (M := [(0, .int z10)]) rfl rfl rfl rfl ?_
  refine h_iload_n (pc' := 35) rfl rfl rfl ?_
  refine h_iload_n (pc' := 36) rfl rfl rfl ?_
  refine h_bipush (pc' := 38) (x := (Int32.ofInt 8)) rfl rfl cb_8 ?_
  refine h_iushr (pc' := 39) rfl rfl (fun z11 hz11 => ?_)
  refine h_iaddA (pc' := 40) rfl rfl (fun z12 hz12 => ?_)
  refine h_istore_n (pc' := 41) (M := [(0, .int z12)]) rfl rfl rfl rfl ?_
  refine h_iload_n (pc' := 42) rfl rfl rfl ?_
  refine h_iload_n (pc' := 43) rfl rfl rfl ?_
  refine h_bipush (pc' := 45) (x := (Int32.ofInt 16)) rfl rfl cb_16 ?_
  refine h_iushr (pc' := 46) rfl rfl (fun z13 hz13 => ?_)
  refine h_iaddA (pc' := 47) rfl rfl (fun z14 hz14 => ?_)
  refine h_istore_n (pc' := 48) (M := [(0, .int z14)]) rfl rfl rfl rfl ?_
  refine h_iload_n (pc' := 49) rfl rfl rfl ?_
  refine h_bipush (pc' := 51) (x := (Int32.ofInt 63)) rfl rfl cb_63 ?_
  refine h_iand (pc' := 52) rfl rfl (fun z15 hz15 uz15 vz15 => ?_)
  clear uz15
  rw [ci_63] at vz15
  have yz15 := vz15 (by omega)
  exact h_iret rfl rfl (kk _ _ rfl (by omega) (by have e7 : z7 = z4 + z6 := g_bc_p hz7 rfl rfl; rw [hz15, hz14, hz13, hz12, hz11, hz10, hz9, hz8, e7, hz6, hz5, hz4, hz3, hz2, hz1]; rfl))
set_option maxHeartbeats 100000000 in
theorem n_b8_l (ns : Nat) (σ : h_S) (hI : h_I σ) (x0 : Int32) (a0 : Int) (hx0 : x0.toInt = a0) {Q : Option Value → h_S → Prop} (kk : ∀ (r : Int32) (b : Int) (hb : r.toInt = b), (0 ≤ b ∧ b ≤ 8) → (b = g_bn8 x0 8) → Q (some (.int r)) σ) : ∀ n : Nat, (∀ (y1 : Int32) (b1 : Int), y1.toInt = b1 → (0 ≤ b1 ∧ b1 ≤ 9) → ∀ (y2 : Int32) (b2 : Int), y2.toInt = b2 → (0 ≤ b2 ∧ b2 ≤ 8) → (b1 = g_bn8 x0 b2.toNat) → (0 ≤ b1 ∧ b1 ≤ b2) → (8 + 1 - b2) * 1000000 + 1000000000 ≤ (n : Int) → h_T g_P (g_Y ns) 192 4 [(0, .int x0), (1, .int y1), (2, .int y2)] [] σ Q) := by
  intro n
  induction n with
  | zero => exact by intro  y1 b1 hy1 ry1 y2 b2 hy2 ry2 ex0 ex1 hm; exfalso; omega
  | succ n ih =>
    intro  y1 b1 hy1 ry1 y2 b2 hy2 ry2 ex0 ex1 hm
    refine h_iload_n (pc' := 5) rfl rfl rfl ?_
    refine h_bipush (pc' := 7) (x := (Int32.ofInt 8)) rfl rfl cb_8 ?_
    refine h_cge (tg := 24) (pc' := 10) rfl rfl rfl hy2 ci_8 (fun c1 => ?_) (fun c1 => ?_)
    · refine h_iload_n (pc' := 25) rfl rfl rfl ?_
      exact h_iret rfl rfl (kk _ _ hy1 (by omega) (by rw [show b2 = 8 by omega] at ex0; exact ex0))
    · refine h_iload_n (pc' := 11) rfl rfl rfl ?_
      refine h_iload_n (pc' := 12) rfl rfl rfl ?_
      refine h_iload_n (pc' := 13) rfl rfl rfl ?_
      refine h_ishr (pc' := 14) rfl rfl (fun z2 hz2 => ?_)
      refine h_iconst (pc' := 15) (x := (Int32.ofInt 1)) rfl rfl rfl ?_
      refine h_iand (pc' := 16) rfl rfl (fun z3 hz3 uz3 vz3 => ?_)
      clear uz3
      rw [ci_1] at vz3
      have yz3 := vz3 (by omega)
      refine h_iadd (pc' := 17) rfl rfl hy1 rfl rfl (by omega) (by omega) (fun z4 hz4 => ?_)
      refine h_istore_n (pc' := 18) (M := [(1, .int z4), (0, .int x0), (2, .int y2)]) rfl rfl rfl rfl ?_
      refine h_iinc (pc' := 21) (M := fun z5 => [(2, .int z5), (1, .int z4), (0, .int x0)]) rfl rfl rfl rfl hy2 ci_1 rfl (by omega) (by omega) (fun _ => rfl) (fun z5 hz5 => ?_)
      refine h_goto (pc' := 4) rfl rfl ?_
      exact h_wk [(0, .int x0), (1, .int z4), (2, .int z5)] ⟨rfl, rfl, rfl, trivial⟩ (ih z4 _ hz4 (by omega) z5 _ hz5 (by omega) (by have gz := g_hb_of hz3 hz2 hy2; exact g_b8_s ex0 (by omega) (by omega)) (by omega) (by omega))
set_option maxHeartbeats 100000000 in
theorem n_b8 {ns : Nat} (σ : h_S) (hI : h_I σ) (x0 : Int32) (a0 : Int) (hx0 : x0.toInt = a0) {Q : Option Value → h_S → Prop} (kk : ∀ (r : Int32) (b : Int) (hb : r.toInt = b), (0 ≤ b ∧ b ≤ 8) → (b = g_bn8 x0 8) → Q (some (.int r)) σ) : h_T g_P (g_Y ns) 192 0 [(0, .int x0)] [] σ Q := by
  refine h_iconst (pc' := 1) (x := (Int32.ofInt 0)) rfl rfl rfl ?_
  refine h_istore_n (pc' := 2) (M := [(1, .int (Int32.ofInt 0)), (0, .int x0)]) rfl rfl rfl rfl ?_
  refine h_iconst (pc' := 3) (x := (Int32.ofInt 0)) rfl rfl rfl ?_
  refine h_istore_n (pc' := 4) (M := [(2, .int (Int32.ofInt 0)), (1, .int (Int32.ofInt 0)), (0, .int x0)]) rfl rfl rfl rfl ?_
  exact h_wk [(0, .int x0), (1, .int (Int32.ofInt 0)), (2, .int (Int32.ofInt 0))] ⟨rfl, rfl, rfl, trivial⟩ ((n_b8_l ns σ hI x0 a0 hx0 kk 1000000000000) (Int32.ofInt 0) _ ci_0 (by omega) (Int32.ofInt 0) _ ci_0 (by omega) rfl (by omega) (by omega))
