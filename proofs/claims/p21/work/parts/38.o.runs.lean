/-! HOW MANY BITS, THE FIRST THAT IS NOT -/
def g_us (x y : Int32) : Int32 := (x.toUInt32 >>> (y.toUInt32 &&& Int32.toUInt32 31)).toInt32
def g_bc1 (x : Int32) : Int32 := x - (g_us x (Int32.ofInt 1) &&& Int32.ofInt 1431655765)
def g_bc2 (a : Int32) : Int32 := (a &&& Int32.ofInt 858993459) + (g_us a (Int32.ofInt 2) &&& Int32.ofInt 858993459)
def g_bc3 (a : Int32) : Int32 := (a + g_us a (Int32.ofInt 4)) &&& Int32.ofInt 252645135
def g_bc4 (a : Int32) : Int32 := a + g_us a (Int32.ofInt 8)
def g_bc5 (a : Int32) : Int32 := a + g_us a (Int32.ofInt 16)
def g_bc (x : Int32) : Int32 := g_bc5 (g_bc4 (g_bc3 (g_bc2 (g_bc1 x)))) &&& Int32.ofInt 63
theorem g_bc_p {x y : Int32} {a b : Int} {z : Int32} (hz : z.toInt = a + b) (hx : x.toInt = a) (hy : y.toInt = b) : z = x + y := by
  rw [← g_ofi hz, Int32.ofInt_add, g_ofi hx, g_ofi hy]
def g_bn8 (w : Int32) : Nat → Int
  | 0 => 0
  | m + 1 => g_bn8 w m + g_hb w (m : Int)
theorem g_b8_s {w : Int32} {k b b' : Int} (h : b = g_bn8 w k.toNat) (k0 : 0 ≤ k) (hb : b' = b + g_hb w k) : b' = g_bn8 w (k + 1).toNat := by
  rw [show (k + 1).toNat = k.toNat + 1 by omega]
  show b' = g_bn8 w k.toNat + g_hb w ((k.toNat : Nat) : Int)
  rw [show ((k.toNat : Nat) : Int) = k by omega, ← h]
  exact hb
theorem g_bc_8' : ∀ x : Fin 256, (g_bc (Int32.ofInt ((x.val : Nat) : Int))).toInt = g_bn8 (Int32.ofInt ((x.val : Nat) : Int)) 8 := by decide +kernel
theorem g_or_8' : ∀ x : Fin 256, ∀ i : Fin 8, 0 ≤ (g_or (Int32.ofInt ((x.val : Nat) : Int)) ((i.val : Nat) : Int)).toInt ∧ (g_or (Int32.ofInt ((x.val : Nat) : Int)) ((i.val : Nat) : Int)).toInt ≤ 255 := by decide +kernel
theorem g_w_8 {w : Int32} (h : 0 ≤ w.toInt) : Int32.ofInt ((w.toInt.toNat : Nat) : Int) = w := by
  rw [show ((w.toInt.toNat : Nat) : Int) = w.toInt by omega, Int32.ofInt_toInt]
theorem g_bc_8 {w : Int32} (h : 0 ≤ w.toInt ∧ w.toInt ≤ 255) : (g_bc w).toInt = g_bn8 w 8 := by
  have z : (g_bc (Int32.ofInt ((w.toInt.toNat : Nat) : Int))).toInt = g_bn8 (Int32.ofInt ((w.toInt.toNat : Nat) : Int)) 8 := g_bc_8' ⟨w.toInt.toNat, by omega⟩
  rw [g_w_8 h.1] at z
  exact z
theorem g_or_8 {w : Int32} {i : Int} (h : 0 ≤ w.toInt ∧ w.toInt ≤ 255) (hi : 0 ≤ i ∧ i ≤ 7) : 0 ≤ (g_or w i).toInt ∧ (g_or w i).toInt ≤ 255 := by
  have z : 0 ≤ (g_or (Int32.ofInt ((w.toInt.toNat : Nat) : Int)) ((i.toNat : Nat) : Int)).toInt ∧ (g_or (Int32.ofInt ((w.toInt.toNat : Nat) : Int)) ((i.toNat : Nat) : Int)).toInt ≤ 255 := g_or_8' ⟨w.toInt.toNat, by omega⟩ ⟨i.toNat, by omega⟩
  rw [g_w_8 h.1, show ((i.toNat : Nat) : Int) = i by omega] at z
  exact z
theorem g_pf_8 {y : Int → Int → Int → Bool} {aw : Int32} {pl L : Int → Int} : ∀ k : Nat, k ≤ 8 → 0 ≤ ((g_pf y aw pl (L, 0, 0) k).2.2).toInt ∧ ((g_pf y aw pl (L, 0, 0) k).2.2).toInt ≤ 255
  | 0, _ => by
    show 0 ≤ (0 : Int32).toInt ∧ (0 : Int32).toInt ≤ 255
    decide
  | m + 1, h => by
    have z := g_pf_8 (y := y) (aw := aw) (pl := pl) (L := L) m (by omega)
    show 0 ≤ ((g_ps y aw (pl (m : Int)) (m : Int) (g_pf y aw pl (L, 0, 0) m)).2.2).toInt ∧ ((g_ps y aw (pl (m : Int)) (m : Int) (g_pf y aw pl (L, 0, 0) m)).2.2).toInt ≤ 255
    unfold g_ps
    by_cases c : g_hb aw (pl (m : Int) / 10) = 0 ∧ y (pl (m : Int) / 10) ((g_pf y aw pl (L, 0, 0) m).1 (pl (m : Int) % 10)) (pl (m : Int) % 10) = true
    · rw [if_pos c]
      exact g_or_8 z ⟨by omega, by omega⟩
    · rw [if_neg c]
      exact z
def g_fs (w : Int32) (n : Int) : Nat → Int → Int
  | 0, _ => -4
  | m + 1, i => if i < n then (if g_hb w i = 0 then i else g_fs w n m (i + 1)) else -4
theorem g_fs_n {w : Int32} {n i T : Int} {m m' : Nat} (h : g_fs w n m i = T) (hm : m = m' + 1) (hi : i < n) (hb : ¬ g_hb w i = 0) : g_fs w n m' (i + 1) = T := by
  subst hm
  rw [← h]
  show _ = (if i < n then (if g_hb w i = 0 then i else g_fs w n m' (i + 1)) else -4)
  rw [if_pos hi, if_neg hb]
theorem g_fs_y {w : Int32} {n i T : Int} {m m' : Nat} (h : g_fs w n m i = T) (hm : m = m' + 1) (hi : i < n) (hb : g_hb w i = 0) : i = T := by
  subst hm
  rw [← h]
  show i = (if i < n then (if g_hb w i = 0 then i else g_fs w n m' (i + 1)) else -4)
  rw [if_pos hi, if_pos hb]
theorem g_fs_o {w : Int32} {n i T : Int} {m : Nat} (h : g_fs w n m i = T) (hn : m = 0 ∨ n ≤ i) : -4 = T := by
  rw [← h]
  cases m with
  | zero => rfl
  | succ k =>
    show -4 = (if i < n then _ else -4)
    rw [if_neg (by omega)]
theorem g_hb_oi {z v b y : Int32} {x c : Int} (hz : z = v &&& (Int32.ofInt 1)) (hv : v = b >>> (y &&& 31)) (hy : y.toInt = x) (hc : b.toInt = c) : z.toInt = g_hb (Int32.ofInt c) x := by
  rw [g_ofi hc]
  exact g_hb_of hz hv hy
set_option maxHeartbeats 100000000 in
theorem n_bc {ns : Nat} (σ : h_S) (hI : h_I σ) (x0 : Int32) (a0 : Int) (hx0 : x0.toInt = a0) {Q : Option Value → h_S → Prop} (kk : ∀ (r : Int32) (b : Int) (hb : r.toInt = b), (0 ≤ b ∧ b ≤ 63) → (r = g_bc x0) → Q (some (.int r)) σ) : h_T g_P (g_Y ns) 226 0 [(0, .int x0)] [] σ Q := by
  refine h_iload_n (pc' := 1) rfl rfl rfl ?_
  refine h_iload_n (pc' := 2) rfl rfl rfl ?_
  refine h_iconst (pc' := 3) (x := (Int32.ofInt 1)) rfl rfl rfl ?_
  refine h_iushr (pc' := 4) rfl rfl (fun z1 hz1 => ?_)
  refine h_ldcw (pc' := 7) (x := (Int32.ofInt 1431655765)) rfl rfl rfl ?_
  refine h_iand (pc' := 8) rfl rfl (fun z2 hz2 uz2 vz2 => ?_)
  clear uz2
  rw [ci_1431655765] at vz2
  have yz2 := vz2 (by omega)
  refine h_isubA (pc' := 9) rfl rfl (fun z3 hz3 => ?_)
  refine h_istore_n (pc' := 10) (M := [(0, .int z3)]) rfl rfl rfl rfl ?_
  refine h_iload_n (pc' := 11) rfl rfl rfl ?_
  refine h_ldcw (pc' := 14) (x := (Int32.ofInt 858993459)) rfl rfl rfl ?_
  refine h_iand (pc' := 15) rfl rfl (fun z4 hz4 uz4 vz4 => ?_)
  clear uz4
  rw [ci_858993459] at vz4
  have yz4 := vz4 (by omega)
  refine h_iload_n (pc' := 16) rfl rfl rfl ?_
  refine h_iconst (pc' := 17) (x := (Int32.ofInt 2)) rfl rfl rfl ?_
  refine h_iushr (pc' := 18) rfl rfl (fun z5 hz5 => ?_)
  refine h_ldcw (pc' := 21) (x := (Int32.ofInt 858993459)) rfl rfl rfl ?_
  refine h_iand (pc' := 22) rfl rfl (fun z6 hz6 uz6 vz6 => ?_)
  clear uz6
  rw [ci_858993459] at vz6
  have yz6 := vz6 (by omega)
  refine h_iadd (pc' := 23) rfl rfl rfl rfl rfl (by omega) (by omega) (fun z7 hz7 => ?_)
  refine h_istore_n (pc' := 24) (M := [(0, .int z7)]) rfl rfl rfl rfl ?_
  refine h_iload_n (pc' := 25) rfl rfl rfl ?_
  refine h_iload_n (pc' := 26) rfl rfl rfl ?_
  refine h_iconst (pc' := 27) (x := (Int32.ofInt 4)) rfl rfl rfl ?_
  refine h_iushr (pc' := 28) rfl rfl (fun z8 hz8 => ?_)
  refine h_iaddA (pc' := 29) rfl rfl (fun z9 hz9 => ?_)
  refine h_ldcw (pc' := 32) (x := (Int32.ofInt 252645135)) rfl rfl rfl ?_
  refine h_iand (pc' := 33) rfl rfl (fun z10 hz10 uz10 vz10 => ?_)
  clear uz10
  rw [ci_252645135] at vz10
  have yz10 := vz10 (by omega)
  refine h_istore_n (pc' := 34) (M := [(0, .int z10)]) rfl rfl rfl rfl ?_
  refine h_iload_n (pc' := 35) rfl rfl rfl ?_
  refine h_iload_n (pc' := 36) rfl rfl rfl ?_
  refine h_bipush (pc' := 38) (x := (Int32.ofInt 8)) rfl rfl cb_8 ?_
  refine h_iushr (pc' := 39) rfl rfl (fun z11 hz11 => ?_)
  refine h_iaddA (pc' := 40) rfl rfl (fun z12 hz12 => ?_)
  refine h_istore_n (pc' := 41) (M := [(0, .int z12)]) rfl rfl rfl rfl ?_
  refine h_iload_n (pc' := 42) rfl rfl rfl ?_
  refine h_iload_n (pc' := 43) rfl rfl rfl ?_
  refine h_bipush (pc' := 45) (x := (Int32.ofInt 16)) rfl rfl cb_16 ?_
  refine h_iushr (pc' := 46) rfl rfl (fun z13 hz13 => ?_)
  refine h_iaddA (pc' := 47) rfl rfl (fun z14 hz14 => ?_)
  refine h_istore_n (pc' := 48) (M := [(0, .int z14)]) rfl rfl rfl rfl ?_
  refine h_iload_n (pc' := 49) rfl rfl rfl ?_
  refine h_bipush (pc' := 51) (x := (Int32.ofInt 63)) rfl rfl cb_63 ?_
  refine h_iand (pc' := 52) rfl rfl (fun z15 hz15 uz15 vz15 => ?_)
  clear uz15
  rw [ci_63] at vz15
  have yz15 := vz15 (by omega)
  exact h_iret rfl rfl (kk _ _ rfl (by omega) (by have e7 : z7 = z4 + z6 := g_bc_p hz7 rfl rfl; rw [hz15, hz14, hz13, hz12, hz11, hz10, hz9, hz8, e7, hz6, hz5, hz4, hz3, hz2, hz1]; rfl))
set_option maxHeartbeats 100000000 in
theorem n_b8_l (ns : Nat) (σ : h_S) (hI : h_I σ) (x0 : Int32) (a0 : Int) (hx0 : x0.toInt = a0) {Q : Option Value → h_S → Prop} (kk : ∀ (r : Int32) (b : Int) (hb : r.toInt = b), (0 ≤ b ∧ b ≤ 8) → (b = g_bn8 x0 8) → Q (some (.int r)) σ) : ∀ n : Nat, (∀ (y1 : Int32) (b1 : Int), y1.toInt = b1 → (0 ≤ b1 ∧ b1 ≤ 9) → ∀ (y2 : Int32) (b2 : Int), y2.toInt = b2 → (0 ≤ b2 ∧ b2 ≤ 8) → (b1 = g_bn8 x0 b2.toNat) → (0 ≤ b1 ∧ b1 ≤ b2) → (8 + 1 - b2) * 1000000 + 1000000000 ≤ (n : Int) → h_T g_P (g_Y ns) 192 4 [(0, .int x0), (1, .int y1), (2, .int y2)] [] σ Q) := by
  intro n
  induction n with
  | zero => exact by intro  y1 b1 hy1 ry1 y2 b2 hy2 ry2 ex0 ex1 hm; exfalso; omega
  | succ n ih =>
    intro  y1 b1 hy1 ry1 y2 b2 hy2 ry2 ex0 ex1 hm
    refine h_iload_n (pc' := 5) rfl rfl rfl ?_
    refine h_bipush (pc' := 7) (x := (Int32.ofInt 8)) rfl rfl cb_8 ?_
    refine h_cge (tg := 24) (pc' := 10) rfl rfl rfl hy2 ci_8 (fun c1 => ?_) (fun c1 => ?_)
    · refine h_iload_n (pc' := 25) rfl rfl rfl ?_
      exact h_iret rfl rfl (kk _ _ hy1 (by omega) (by rw [show b2 = 8 by omega] at ex0; exact ex0))
    · refine h_iload_n (pc' := 11) rfl rfl rfl ?_
      refine h_iload_n (pc' := 12) rfl rfl rfl ?_
      refine h_iload_n (pc' := 13) rfl rfl rfl ?_
      refine h_ishr (pc' := 14) rfl rfl (fun z2 hz2 => ?_)
      refine h_iconst (pc' := 15) (x := (Int32.ofInt 1)) rfl rfl rfl ?_
      refine h_iand (pc' := 16) rfl rfl (fun z3 hz3 uz3 vz3 => ?_)
      clear uz3
      rw [ci_1] at vz3
      have yz3 := vz3 (by omega)
      refine h_iadd (pc' := 17) rfl rfl hy1 rfl rfl (by omega) (by omega) (fun z4 hz4 => ?_)
      refine h_istore_n (pc' := 18) (M := [(1, .int z4), (0, .int x0), (2, .int y2)]) rfl rfl rfl rfl ?_
      refine h_iinc (pc' := 21) (M := fun z5 => [(2, .int z5), (1, .int z4), (0, .int x0)]) rfl rfl rfl rfl hy2 ci_1 rfl (by omega) (by omega) (fun _ => rfl) (fun z5 hz5 => ?_)
      refine h_goto (pc' := 4) rfl rfl ?_
      exact h_wk [(0, .int x0), (1, .int z4), (2, .int z5)] ⟨rfl, rfl, rfl, trivial⟩ (ih z4 _ hz4 (by omega) z5 _ hz5 (by omega) (by have gz := g_hb_of hz3 hz2 hy2; exact g_b8_s ex0 (by omega) (by omega)) (by omega) (by omega))
set_option maxHeartbeats 100000000 in
theorem n_b8 {ns : Nat} (σ : h_S) (hI : h_I σ) (x0 : Int32) (a0 : Int) (hx0 : x0.toInt = a0) {Q : Option Value → h_S → Prop} (kk : ∀ (r : Int32) (b : Int) (hb : r.toInt = b), (0 ≤ b ∧ b ≤ 8) → (b = g_bn8 x0 8) → Q (some (.int r)) σ) : h_T g_P (g_Y ns) 192 0 [(0, .int x0)] [] σ Q := by
  refine h_iconst (pc' := 1) (x := (Int32.ofInt 0)) rfl rfl rfl ?_
  refine h_istore_n (pc' := 2) (M := [(1, .int (Int32.ofInt 0)), (0, .int x0)]) rfl rfl rfl rfl ?_
  refine h_iconst (pc' := 3) (x := (Int32.ofInt 0)) rfl rfl rfl ?_
  refine h_istore_n (pc' := 4) (M := [(2, .int (Int32.ofInt 0)), (1, .int (Int32.ofInt 0)), (0, .int x0)]) rfl rfl rfl rfl ?_
  exact h_wk [(0, .int x0), (1, .int (Int32.ofInt 0)), (2, .int (Int32.ofInt 0))] ⟨rfl, rfl, rfl, trivial⟩ ((n_b8_l ns σ hI x0 a0 hx0 kk 1000000000000) (Int32.ofInt 0) _ ci_0 (by omega) (Int32.ofInt 0) _ ci_0 (by omega) rfl (by omega) (by omega))
set_option maxHeartbeats 100000000 in
theorem n_fsX_l (ns : Nat) (σ : h_S) (hI : h_I σ) (x0 : Int32) (a0 : Int) (hx0 : x0.toInt = a0) {Q : Option Value → h_S → Prop} (kk : ∀ (r : Int32) (b : Int) (hb : r.toInt = b), ((-4) ≤ b ∧ b ≤ 7) → (b = g_fs x0 (σ 10 10) 8 0) → Q (some (.int r)) σ) : ∀ n : Nat, (∀ (y2 : Int32) (b2 : Int), y2.toInt = b2 → (0 ≤ b2 ∧ b2 ≤ 8) → (g_fs x0 (σ 10 10) (8 - b2).toNat b2 = g_fs x0 (σ 10 10) 8 0) → (8 + 1 - b2) * 1000000 + 1000000000 ≤ (n : Int) → h_T g_P (g_Y ns) 129 2 [(0, .ref 9), (1, .int x0), (2, .int y2)] [] σ Q) := by
  intro n
  induction n with
  | zero => exact by intro  y2 b2 hy2 ry2 ex0 hm; exfalso; omega
  | succ n ih =>
    intro  y2 b2 hy2 ry2 ex0 hm
    refine h_iload_n (pc' := 3) rfl rfl rfl ?_
    refine h_aload_n (pc' := 4) rfl rfl rfl ?_
    refine h_getR (pc' := 7) rfl rfl rfl rfl rfl ?_
    refine h_getI (pc' := 10) (v := σ 10 10) rfl rfl rfl rfl rfl rfl (fun z1 hz1 => ?_)
    have tz1 := tf_10_10 hI
    refine h_cge (tg := 29) (pc' := 13) rfl rfl rfl hy2 hz1 (fun c2 => ?_) (fun c2 => ?_)
    · refine h_bipush (pc' := 31) (x := (Int32.ofInt (-4))) rfl rfl cb_m4 ?_
      exact h_iret rfl rfl (kk _ _ ci_m4 (by omega) (g_fs_o ex0 (by omega)))
    · refine h_iload_n (pc' := 14) rfl rfl rfl ?_
      refine h_iload_n (pc' := 15) rfl rfl rfl ?_
      refine h_calls (pc' := 18) (M := [(0, .int x0), (1, .int y2)]) rfl rfl rfl rfl rfl rfl ?_
      refine h_iload_n (pc' := 1) rfl rfl rfl ?_
      refine h_iload_n (pc' := 2) rfl rfl rfl ?_
      refine h_ishr (pc' := 3) rfl rfl (fun z3 hz3 => ?_)
      refine h_iconst (pc' := 4) (x := (Int32.ofInt 1)) rfl rfl rfl ?_
      refine h_iand (pc' := 5) rfl rfl (fun z4 hz4 uz4 vz4 => ?_)
      clear uz4
      rw [ci_1] at vz4
      have yz4 := vz4 (by omega)
      refine h_zeq (tg := 12) (pc' := 8) rfl rfl rfl rfl (fun c5 => ?_) (fun c5 => ?_)
      · refine h_iconst (pc' := 13) (x := (Int32.ofInt 0)) rfl rfl rfl ?_
        refine h_zret rfl rfl ci_0 (by omega) (h_Kv ?_)
        refine h_zne (tg := 23) (pc' := 21) rfl rfl rfl ci_0 (fun c6 => absurd c6 (by omega)) (fun c6 => ?_)
        refine h_iload_n (pc' := 22) rfl rfl rfl ?_
        exact h_iret rfl rfl (kk _ _ hy2 (by omega) (by have gz := g_hb_of hz4 hz3 hy2; exact g_fs_y (m' := (7 - b2).toNat) ex0 (by omega) (by omega) (by omega)))
      · refine h_iconst (pc' := 9) (x := (Int32.ofInt 1)) rfl rfl rfl ?_
        refine h_goto (pc' := 13) rfl rfl ?_
        refine h_zret rfl rfl ci_1 (by omega) (h_Kv ?_)
        refine h_zne (tg := 23) (pc' := 21) rfl rfl rfl ci_1 (fun c7 => ?_) (fun c7 => absurd c7 (by omega))
        refine h_iinc (pc' := 26) (M := fun z8 => [(2, .int z8), (0, .ref 9), (1, .int x0)]) rfl rfl rfl rfl hy2 ci_1 rfl (by omega) (by omega) (fun _ => rfl) (fun z8 hz8 => ?_)
        refine h_goto (pc' := 2) rfl rfl ?_
        exact h_wk [(0, .ref 9), (1, .int x0), (2, .int z8)] ⟨rfl, rfl, rfl, trivial⟩ (ih z8 _ hz8 (by omega) (by have gz := g_hb_of hz4 hz3 hy2; exact g_fs_n ex0 (by omega) (by omega) (by omega)) (by omega))
set_option maxHeartbeats 100000000 in
theorem n_fsX {ns : Nat} (σ : h_S) (hI : h_I σ) (x0 : Int32) (a0 : Int) (hx0 : x0.toInt = a0) {Q : Option Value → h_S → Prop} (kk : ∀ (r : Int32) (b : Int) (hb : r.toInt = b), ((-4) ≤ b ∧ b ≤ 7) → (b = g_fs x0 (σ 10 10) 8 0) → Q (some (.int r)) σ) : h_T g_P (g_Y ns) 129 0 [(0, .ref 9), (1, .int x0)] [] σ Q := by
  refine h_iconst (pc' := 1) (x := (Int32.ofInt 0)) rfl rfl rfl ?_
  refine h_istore_n (pc' := 2) (M := [(2, .int (Int32.ofInt 0)), (0, .ref 9), (1, .int x0)]) rfl rfl rfl rfl ?_
  exact h_wk [(0, .ref 9), (1, .int x0), (2, .int (Int32.ofInt 0))] ⟨rfl, rfl, rfl, trivial⟩ ((n_fsX_l ns σ hI x0 a0 hx0 kk 1000000000000) (Int32.ofInt 0) _ ci_0 (by omega) rfl (by omega))
set_option maxHeartbeats 100000000 in
theorem n_fsM_l (ns : Nat) (σ : h_S) (hI : h_I σ) {Q : Option Value → h_S → Prop} (kk : ∀ (r : Int32) (b : Int) (hb : r.toInt = b), ((-4) ≤ b ∧ b ≤ 7) → (b = g_fs (Int32.ofInt (σ 98 23)) (σ 99 43) 8 0) → Q (some (.int r)) σ) : ∀ n : Nat, (∀ (y1 : Int32) (b1 : Int), y1.toInt = b1 → (0 ≤ b1 ∧ b1 ≤ 8) → (g_fs (Int32.ofInt (σ 98 23)) (σ 99 43) (8 - b1).toNat b1 = g_fs (Int32.ofInt (σ 98 23)) (σ 99 43) 8 0) → (8 + 1 - b1) * 1000000 + 1000000000 ≤ (n : Int) → h_T g_P (g_Y ns) 193 2 [(0, .ref 98), (1, .int y1)] [] σ Q) := by
  intro n
  induction n with
  | zero => exact by intro  y1 b1 hy1 ry1 ex0 hm; exfalso; omega
  | succ n ih =>
    intro  y1 b1 hy1 ry1 ex0 hm
    refine h_iload_n (pc' := 3) rfl rfl rfl ?_
    refine h_aload_n (pc' := 4) rfl rfl rfl ?_
    refine h_getR (pc' := 7) rfl rfl rfl rfl rfl ?_
    refine h_bipush (pc' := 9) (x := (Int32.ofInt 43)) rfl rfl cb_43 ?_
    refine h_iald (pc' := 10) (v := σ 99 43) rfl rfl rfl ci_43 (by omega) (by omega) rfl (fun z1 hz1 => ?_)
    have tz1 := ty_99_10 hI 43 (by omega)
    refine h_cge (tg := 32) (pc' := 13) rfl rfl rfl hy1 hz1 (fun c2 => ?_) (fun c2 => ?_)
    · refine h_bipush (pc' := 34) (x := (Int32.ofInt (-4))) rfl rfl cb_m4 ?_
      exact h_iret rfl rfl (kk _ _ ci_m4 (by omega) (g_fs_o ex0 (by omega)))
    · refine h_aload_n (pc' := 14) rfl rfl rfl ?_
      refine h_getI (pc' := 17) (v := σ 98 23) rfl rfl rfl rfl rfl rfl (fun z3 hz3 => ?_)
      have tz3 := tf_98_23 hI
      refine h_iload_n (pc' := 18) rfl rfl rfl ?_
      refine h_ishr (pc' := 19) rfl rfl (fun z4 hz4 => ?_)
      refine h_iconst (pc' := 20) (x := (Int32.ofInt 1)) rfl rfl rfl ?_
      refine h_iand (pc' := 21) rfl rfl (fun z5 hz5 uz5 vz5 => ?_)
      clear uz5
      rw [ci_1] at vz5
      have yz5 := vz5 (by omega)
      refine h_zne (tg := 26) (pc' := 24) rfl rfl rfl rfl (fun c6 => ?_) (fun c6 => ?_)
      · refine h_iinc (pc' := 29) (M := fun z7 => [(1, .int z7), (0, .ref 98)]) rfl rfl rfl rfl hy1 ci_1 rfl (by omega) (by omega) (fun _ => rfl) (fun z7 hz7 => ?_)
        refine h_goto (pc' := 2) rfl rfl ?_
        exact h_wk [(0, .ref 98), (1, .int z7)] ⟨rfl, rfl, trivial⟩ (ih z7 _ hz7 (by omega) (by have gz := g_hb_oi hz5 hz4 hy1 hz3; exact g_fs_n ex0 (by omega) (by omega) (by omega)) (by omega))
      · refine h_iload_n (pc' := 25) rfl rfl rfl ?_
        exact h_iret rfl rfl (kk _ _ hy1 (by omega) (by have gz := g_hb_oi hz5 hz4 hy1 hz3; exact g_fs_y (m' := (7 - b1).toNat) ex0 (by omega) (by omega) (by omega)))
set_option maxHeartbeats 100000000 in
theorem n_fsM {ns : Nat} (σ : h_S) (hI : h_I σ) {Q : Option Value → h_S → Prop} (kk : ∀ (r : Int32) (b : Int) (hb : r.toInt = b), ((-4) ≤ b ∧ b ≤ 7) → (b = g_fs (Int32.ofInt (σ 98 23)) (σ 99 43) 8 0) → Q (some (.int r)) σ) : h_T g_P (g_Y ns) 193 0 [(0, .ref 98)] [] σ Q := by
  refine h_iconst (pc' := 1) (x := (Int32.ofInt 0)) rfl rfl rfl ?_
  refine h_istore_n (pc' := 2) (M := [(1, .int (Int32.ofInt 0)), (0, .ref 98)]) rfl rfl rfl rfl ?_
  exact h_wk [(0, .ref 98), (1, .int (Int32.ofInt 0))] ⟨rfl, rfl, trivial⟩ ((n_fsM_l ns σ hI  kk 1000000000000) (Int32.ofInt 0) _ ci_0 (by omega) rfl (by omega))
/-! RUNS, AHEAD -/
theorem g_run_eq {np ng nf m na : Int} {F G f c d A B r R l L0 L1 q pl : Int → Int} {aw : Int32} (hd : g_ph np 256 F G) (n6 : np ≤ 6) (hf : g_FX np c d nf f) (hm : m = nf) (hfe : ∀ j, 0 ≤ j → j < nf → c j = A j ∧ d j = B j) (hre : ∀ g, 0 ≤ g → g < ng → r g = R g ∧ r g ≤ 999) (hla : ∀ g, 0 ≤ g → g < ng → l g = L0 g ∧ (l g = -4 ∨ (0 ≤ l g ∧ l g < np))) (hpl : ∀ j, 0 ≤ j → j < na → q j = pl j ∧ 0 ≤ q j ∧ q j / 10 < np ∧ q j % 10 < ng) (hL : g_cq ng l L1) (k : Nat) (hk : (k : Int) ≤ na) : g_pe ng (g_pf (fun p l g => g_yX np F f p l (r g)) aw q (L1, 0, 0) k) (g_pf (fun p l g => g_yM G A B m p l (R g)) aw pl (L0, 0, 0) k) :=
  (g_pf_e (n := np) (ng := ng) (aw := aw) (pl := q) (pl' := pl) (x := (L1, 0, 0)) (x' := (L0, 0, 0)) ⟨fun g a b => (hL g a b).trans (hla g a b).1, rfl, rfl⟩ (fun g a b => by
    have z := (hla g a b).2
    rw [← hL g a b] at z
    exact z) (fun p l g p0 p1 g0 g1 hl => by
    have z := hre g g0 g1
    show g_yX np F f p l (r g) = g_yM G A B m p l (R g)
    rw [← z.1]
    exact g_y_eq hd n6 hf hm hfe hl p0 p1 z.2) k (fun i a b => hpl i a (by omega))).1
theorem c_R.run {s : h_S} {F G f L1 X84 S : Int → Int} {aw r : Int32} {x82 c t : Int} (h : c_R true s) (hI : h_I s) (ht : g_ti s) (hF : g_DX (s 10 8) (s 12) (s 11) (s 13 2) (s 14) (s 15) F) (hG : g_DM (s 98 1) (s 99 18) (s 99) (s 100) G) (hf : g_FX (s 10 8) (s 17) (s 18) (s 16 2) f) (hL : g_cq (s 10 9) (s 20) L1) (hX : (X84, Int32.ofInt x82, r) = g_pf (fun p l g => g_yX (s 10 8) F f p l (s 19 g)) aw (s 22) (L1, 0, 0) (s 10 10).toNat) (hM : g_pmI (fun p l g => g_yM G (fun i => s 99 (19 + 2 * i)) (fun i => s 99 (19 + 2 * i + 1)) (s 99 25) p l (s 99 (26 + g))) aw (fun i => s 99 (35 + i)) (fun g => g_orn (s 99 (29 + g))) (s 99 43) S c t) : (∀ g, 0 ≤ g → g < s 10 9 → X84 g = g_orn (S (161 + g))) ∧ Int32.ofInt x82 = Int32.ofInt c ∧ r = Int32.ofInt t ∧ 0 ≤ r.toInt ∧ r.toInt ≤ 255 := by
  have gd := h.deg hI ht hF hG
  have sz := h.sz
  have t8 := tf_10_8 hI
  have t9 := tf_10_9 hI
  have t10 := tf_10_10 hI
  obtain ⟨m1, m2, m3⟩ := hM
  have e := g_run_eq (aw := aw) (A := fun i => s 99 (19 + 2 * i)) (B := fun i => s 99 (19 + 2 * i + 1)) (R := fun g => s 99 (26 + g)) (r := s 19) (l := s 20) (L0 := fun g => g_orn (s 99 (29 + g))) (q := s 22) (pl := fun i => s 99 (35 + i)) (na := s 10 10) (ng := s 10 9) gd t8.2 hf sz.2.2.2.2.symm (fun j a b => ⟨(h.fe a b).1, (h.fe a b).2.1⟩) (fun g a b => ⟨h.rc a b, by have y := ty_19 hI g; omega⟩) (fun g a b => by
    have lw := (h.lw a b).1
    refine ⟨?_, by omega⟩
    show s 20 g = g_orn (s 99 (29 + g))
    exact g_orn_of (by omega)) (fun j a b => h.pa a b) hL (s 10 10).toNat (by omega)
  have z8 := g_pf_8 (y := fun p l g => g_yX (s 10 8) F f p l (s 19 g)) (aw := aw) (pl := s 22) (L := L1) (s 10 10).toNat (by omega)
  rw [← sz.2.2.1] at m1 m2 m3
  rw [← hX] at e z8
  obtain ⟨e1, e2, e3⟩ := e
  exact ⟨fun g a b => (e1 g a b).trans (m1 g a (by omega)).symm, e2.trans m2.symm, e3.trans m3.symm, z8⟩
theorem g_oft {t : Int} (h : -2147483648 ≤ t ∧ t ≤ 2147483647) : (Int32.ofInt t).toInt = t := by
  first | exact Int32.toInt_ofInt_of_le (by omega) (by omega) | (rw [Int32.toInt_ofInt]; exact h_bm h.1 h.2)
theorem c_R.runR {s s1 s2 s3 s4 : h_S} {aw r : Int32} (h : c_R true s) (hI : h_I s) (ht : g_ti s) (hF : g_DX (s 10 8) (s 12) (s 11) (s 13 2) (s 14) (s 15) (s1 80)) (hf : g_FX (s 10 8) (s 17) (s 18) (s 16 2) (s1 81)) (a8 : s1 10 8 = s 10 8) (a9 : s1 10 9 = s 10 9) (a10 : s1 10 10 = s 10 10) (a19 : s1 19 = s 19) (a20 : s1 20 = s 20) (a22 : s1 22 = s 22) (hX : ∃ L0, g_cq (s1 10 9) (s1 20) L0 ∧ (s2 84, Int32.ofInt (s2 82 2), r) = g_pf (fun p l g => g_yX (s1 10 8) (s1 80) (s1 81) p l (s1 19 g)) aw (s1 22) (L0, 0, 0) (s1 10 10).toNat) (I2 : h_I s2) (b1 : s3 98 1 = s 98 1) (b99 : s3 99 = s 99) (b100 : s3 100 = s 100) (hG : g_DM (s3 98 1) (s3 99 18) (s3 99) (s3 100) (s4 105)) (hM : g_pmI (fun p l g => g_yM (s4 105) (fun i => s3 99 (19 + 2 * i)) (fun i => s3 99 (19 + 2 * i + 1)) (s3 99 25) p l (s3 99 (26 + g))) aw (fun i => s3 99 (35 + i)) (fun g => g_orn (s3 99 (29 + g))) (s3 99 43) (s4 99) (s4 98 22) (s4 98 23)) (I4 : h_I s4) : (∀ g, 0 ≤ g → g < s 10 9 → s2 84 g = g_orn (s4 99 (161 + g))) ∧ s2 82 2 = s4 98 22 ∧ r = Int32.ofInt (s4 98 23) ∧ r.toInt = s4 98 23 ∧ 0 ≤ r.toInt ∧ r.toInt ≤ 255 := by
  rw [a8, a9, a10, a19, a20, a22] at hX
  rw [b1, b99, b100] at hG
  rw [b99] at hM
  obtain ⟨L0, z1, z2⟩ := hX
  obtain ⟨e1, e2, e3, e4⟩ := h.run hI ht hF hG hf z1 z2 hM
  refine ⟨e1, ?_, e3, ?_, e4⟩
  · rw [← g_oft (tf_82_2 I2), e2, g_oft (tf_98_22 I4)]
  · rw [e3, g_oft (tf_98_23 I4)]
theorem c_R.runl {s s' : h_S} (h : c_R true s) (e8 : s' 10 8 = s 10 8) (e9 : s' 10 9 = s 10 9) (e20 : s' 20 = s 20) : g_lk' (s' 10 8) (s' 10 9) (s' 20) := by
  rw [e8, e9, e20]
  intro g a b
  have lw := (h.lw a b).1
  omega
theorem c_R.runp {fl : Bool} {s s' : h_S} (h : c_R fl s) (e8 : s' 10 8 = s 10 8) (e9 : s' 10 9 = s 10 9) (e10 : s' 10 10 = s 10 10) (e22 : s' 22 = s 22) : ∀ i, 0 ≤ i → i < s' 10 10 → 0 ≤ s' 22 i ∧ s' 22 i / 10 < s' 10 8 ∧ s' 22 i % 10 < s' 10 9 := by
  rw [e8, e9, e10, e22]
  intro i a b
  exact (h.pa a b).2
theorem c_R.runm {fl : Bool} {s s' : h_S} (h : c_R fl s) (hI : h_I s) (e99 : s' 99 = s 99) : ∀ i, 0 ≤ i → i < s' 99 43 → 0 ≤ s' 99 (35 + i) ∧ s' 99 (35 + i) / 10 < 6 ∧ s' 99 (35 + i) % 10 < 3 := by
  rw [e99]
  intro i a b
  have sz := h.sz
  have y := h.pa (j := i) a (by omega)
  have t8 := tf_10_8 hI
  have t9 := tf_10_9 hI
  rw [← y.1]
  exact ⟨y.2.1, by omega, by omega⟩
