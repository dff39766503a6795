/-! MORE ROWS FOR THE WALKS, CONSTANTS -/
section HM
variable {P : e_Pg} {Y : h_L} {k pc pc' : Nat} {L : List (Nat × Value)} {st : List Value} {σ : h_S} {Q : Option Value → h_S → Prop}
theorem h_iincA {i : Nat} {d : Int} {x : Int32} {M : Int32 → List (Nat × Value)} (hc : e_code P k pc = some (.iinc i d, 3)) (hp : pc + 3 = pc') (hn : Nat.blt i (e_mth P k).2.2.1 = true) (hg : e_get L i = some (.int x)) (hM : ∀ z, e_put1 L i (.int z) = M z) (kk : ∀ z : Int32, z = x + Int32.ofInt d → h_T P Y k pc' (M z) st σ Q) : h_T P Y k pc L st σ Q :=
  h_step hc rfl rfl (fun lv mem hl hR => ⟨e_put1 lv i (.int (x + Int32.ofInt d)), mem, by subst hp; show e_iinc _ _ _ _ _ _ _ = _; unfold e_iinc; rw [h_get hl hg]; dsimp only; rw [hn]; rfl, hM (x + Int32.ofInt d) ▸ h_put1 _ _ hl, hR⟩) (kk _ rfl)
theorem h_pw : ∀ n : Nat, n < 7 → 1 ≤ ((1 : Int32) <<< (Int32.ofNat n &&& 31)).toInt ∧ ((1 : Int32) <<< (Int32.ofNat n &&& 31)).toInt ≤ 64 := by decide
theorem h_on {y : Int32} {b : Int} (hy : y.toInt = b) (h0 : 0 ≤ b) : y = Int32.ofNat b.toNat := by
  obtain ⟨a, ha, rfl⟩ := nI_of (x := y) (by rw [h_ilt, h_i0]; omega)
  rw [nI_toInt ha] at hy
  subst hy
  rfl
theorem h_shl1 {x y : Int32} {b : Int} (hc : e_code P k pc = some (.ishl, 1)) (hp : pc + 1 = pc') (hx : x.toInt = 1) (hy : y.toInt = b) (h0 : 0 ≤ b) (h6 : b ≤ 6) (kk : ∀ z : Int32, z = x <<< (y &&& 31) → (1 ≤ z.toInt ∧ z.toInt ≤ 64) → h_T P Y k pc' L (.int z :: st) σ Q) : h_T P Y k pc L (.int y :: .int x :: st) σ Q := by
  refine h_ishl hc hp (fun z hz => kk z hz ?_)
  have h1 : x = 1 := h_ieq.mpr hx
  rw [hz, h1, h_on hy h0]
  exact h_pw b.toNat (by omega)
end HM
theorem h_rgv {x : Int32} {v : Int} (h : x.toInt = v) : -2147483648 ≤ v ∧ v ≤ 2147483647 := h ▸ h_rng x
theorem h_up_at {σ : h_S} {q : Nat} {j v i : Int} : (i = j ∧ h_up σ q j v q i = v) ∨ (i ≠ j ∧ h_up σ q j v q i = σ q i) := by
  unfold h_up
  by_cases h : i = j
  · exact Or.inl ⟨h, if_pos ⟨rfl, h⟩⟩
  · exact Or.inr ⟨h, if_neg (fun e => h e.2)⟩
theorem h_remb {a b : Int} (hb : 0 < b) : 0 ≤ a % b ∧ a % b < b := ⟨Int.emod_nonneg a (by omega), Int.emod_lt_of_pos a hb⟩
theorem h_lcr {a b z : Int} (h : (a < b ∧ z = -1) ∨ (a = b ∧ z = 0) ∨ (b < a ∧ z = 1)) : (z < 0 → a < b) ∧ (0 ≤ z → b ≤ a) ∧ (z ≤ 0 → a ≤ b) ∧ (0 < z → b < a) ∧ (z = 0 → a = b) ∧ (¬ z = 0 → ¬ a = b) := by omega
theorem h_lne0 {y : Int64} {b : Int} (hy : y.toInt = b) (hb : ¬ b = 0) : ¬ y = 0 := by
  intro h
  rw [h] at hy
  have : (0 : Int64).toInt = 0 := rfl
  omega
theorem h_I_cp {σ : h_S} {q0 q1 n : Nat} (h : h_I σ) (ht : ∀ j v, h_ty q0 j v → h_ty q1 j v) : h_I (h_cp σ q0 q1 n) := by
  intro p i
  unfold h_cp
  split
  · next e => obtain ⟨rfl, -⟩ := e; exact ht _ _ (h q0 i)
  · exact h p i
theorem ip_99_0 {σ : h_S} (h : h_I σ) {j v : Int} (hj : 0 ≤ j % 44 ∧ j % 44 < 6) (hv : 0 ≤ v ∧ v ≤ 3) : h_I (h_up σ 99 j v) := in_99 h ⟨fun _ => hv, fun e => absurd e (by omega), fun e => absurd e (by omega), fun e => absurd e (by omega), fun e => absurd e (by omega), fun e => absurd e (by omega), fun e => absurd e (by omega), fun e => absurd e (by omega), fun e => absurd e (by omega), fun e => absurd e (by omega), fun e => absurd e (by omega)⟩
theorem ip_99_1 {σ : h_S} (h : h_I σ) {j v : Int} (hj : 6 ≤ j % 44 ∧ j % 44 < 12) (hv : 0 ≤ v ∧ v ≤ 6) : h_I (h_up σ 99 j v) := in_99 h ⟨fun e => absurd e (by omega), fun _ => hv, fun e => absurd e (by omega), fun e => absurd e (by omega), fun e => absurd e (by omega), fun e => absurd e (by omega), fun e => absurd e (by omega), fun e => absurd e (by omega), fun e => absurd e (by omega), fun e => absurd e (by omega), fun e => absurd e (by omega)⟩
theorem ip_99_2 {σ : h_S} (h : h_I σ) {j v : Int} (hj : 12 ≤ j % 44 ∧ j % 44 < 18) (hv : 0 ≤ v ∧ v ≤ 5) : h_I (h_up σ 99 j v) := in_99 h ⟨fun e => absurd e (by omega), fun e => absurd e (by omega), fun _ => hv, fun e => absurd e (by omega), fun e => absurd e (by omega), fun e => absurd e (by omega), fun e => absurd e (by omega), fun e => absurd e (by omega), fun e => absurd e (by omega), fun e => absurd e (by omega), fun e => absurd e (by omega)⟩
theorem ip_99_3 {σ : h_S} (h : h_I σ) {j v : Int} (hj : 18 ≤ j % 44 ∧ j % 44 < 19) (hv : 0 ≤ v ∧ v ≤ 3) : h_I (h_up σ 99 j v) := in_99 h ⟨fun e => absurd e (by omega), fun e => absurd e (by omega), fun e => absurd e (by omega), fun _ => hv, fun e => absurd e (by omega), fun e => absurd e (by omega), fun e => absurd e (by omega), fun e => absurd e (by omega), fun e => absurd e (by omega), fun e => absurd e (by omega), fun e => absurd e (by omega)⟩
theorem ip_99_4 {σ : h_S} (h : h_I σ) {j v : Int} (hj : 19 ≤ j % 44 ∧ j % 44 < 25) (hv : 0 ≤ v ∧ v ≤ 5) : h_I (h_up σ 99 j v) := in_99 h ⟨fun e => absurd e (by omega), fun e => absurd e (by omega), fun e => absurd e (by omega), fun e => absurd e (by omega), fun _ => hv, fun e => absurd e (by omega), fun e => absurd e (by omega), fun e => absurd e (by omega), fun e => absurd e (by omega), fun e => absurd e (by omega), fun e => absurd e (by omega)⟩
theorem ip_99_5 {σ : h_S} (h : h_I σ) {j v : Int} (hj : 25 ≤ j % 44 ∧ j % 44 < 26) (hv : 0 ≤ v ∧ v ≤ 3) : h_I (h_up σ 99 j v) := in_99 h ⟨fun e => absurd e (by omega), fun e => absurd e (by omega), fun e => absurd e (by omega), fun e => absurd e (by omega), fun e => absurd e (by omega), fun _ => hv, fun e => absurd e (by omega), fun e => absurd e (by omega), fun e => absurd e (by omega), fun e => absurd e (by omega), fun e => absurd e (by omega)⟩
theorem ip_99_6 {σ : h_S} (h : h_I σ) {j v : Int} (hj : 26 ≤ j % 44 ∧ j % 44 < 29) (hv : 0 ≤ v ∧ v ≤ 9) : h_I (h_up σ 99 j v) := in_99 h ⟨fun e => absurd e (by omega), fun e => absurd e (by omega), fun e => absurd e (by omega), fun e => absurd e (by omega), fun e => absurd e (by omega), fun e => absurd e (by omega), fun _ => hv, fun e => absurd e (by omega), fun e => absurd e (by omega), fun e => absurd e (by omega), fun e => absurd e (by omega)⟩
theorem ip_99_7 {σ : h_S} (h : h_I σ) {j v : Int} (hj : 29 ≤ j % 44 ∧ j % 44 < 32) (hv : 0 ≤ v ∧ v ≤ 6) : h_I (h_up σ 99 j v) := in_99 h ⟨fun e => absurd e (by omega), fun e => absurd e (by omega), fun e => absurd e (by omega), fun e => absurd e (by omega), fun e => absurd e (by omega), fun e => absurd e (by omega), fun e => absurd e (by omega), fun _ => hv, fun e => absurd e (by omega), fun e => absurd e (by omega), fun e => absurd e (by omega)⟩
theorem ip_99_8 {σ : h_S} (h : h_I σ) {j v : Int} (hj : 32 ≤ j % 44 ∧ j % 44 < 35) (hv : 0 ≤ v ∧ v ≤ 999) : h_I (h_up σ 99 j v) := in_99 h ⟨fun e => absurd e (by omega), fun e => absurd e (by omega), fun e => absurd e (by omega), fun e => absurd e (by omega), fun e => absurd e (by omega), fun e => absurd e (by omega), fun e => absurd e (by omega), fun e => absurd e (by omega), fun _ => hv, fun e => absurd e (by omega), fun e => absurd e (by omega)⟩
theorem ip_99_9 {σ : h_S} (h : h_I σ) {j v : Int} (hj : 35 ≤ j % 44 ∧ j % 44 < 43) (hv : 0 ≤ v ∧ v ≤ 52 ∧ v % 10 ≤ 2) : h_I (h_up σ 99 j v) := in_99 h ⟨fun e => absurd e (by omega), fun e => absurd e (by omega), fun e => absurd e (by omega), fun e => absurd e (by omega), fun e => absurd e (by omega), fun e => absurd e (by omega), fun e => absurd e (by omega), fun e => absurd e (by omega), fun e => absurd e (by omega), fun _ => hv, fun e => absurd e (by omega)⟩
theorem ip_99_10 {σ : h_S} (h : h_I σ) {j v : Int} (hj : 43 ≤ j % 44 ∧ j % 44 < 44) (hv : 0 ≤ v ∧ v ≤ 8) : h_I (h_up σ 99 j v) := in_99 h ⟨fun e => absurd e (by omega), fun e => absurd e (by omega), fun e => absurd e (by omega), fun e => absurd e (by omega), fun e => absurd e (by omega), fun e => absurd e (by omega), fun e => absurd e (by omega), fun e => absurd e (by omega), fun e => absurd e (by omega), fun e => absurd e (by omega), fun _ => hv⟩
theorem im_99 {σ : h_S} (h : h_I σ) {i j v : Int} (hj : i % 44 = j % 44) (hv : h_ty 99 i v) : h_I (h_up σ 99 j v) := h_I_up h (by
  have hv : ((0 ≤ i % 44 ∧ i % 44 < 6) → 0 ≤ v ∧ v ≤ 3) ∧ ((6 ≤ i % 44 ∧ i % 44 < 12) → 0 ≤ v ∧ v ≤ 6) ∧ ((12 ≤ i % 44 ∧ i % 44 < 18) → 0 ≤ v ∧ v ≤ 5) ∧ ((18 ≤ i % 44 ∧ i % 44 < 19) → 0 ≤ v ∧ v ≤ 3) ∧ ((19 ≤ i % 44 ∧ i % 44 < 25) → 0 ≤ v ∧ v ≤ 5) ∧ ((25 ≤ i % 44 ∧ i % 44 < 26) → 0 ≤ v ∧ v ≤ 3) ∧ ((26 ≤ i % 44 ∧ i % 44 < 29) → 0 ≤ v ∧ v ≤ 9) ∧ ((29 ≤ i % 44 ∧ i % 44 < 32) → 0 ≤ v ∧ v ≤ 6) ∧ ((32 ≤ i % 44 ∧ i % 44 < 35) → 0 ≤ v ∧ v ≤ 999) ∧ ((35 ≤ i % 44 ∧ i % 44 < 43) → 0 ≤ v ∧ v ≤ 52 ∧ v % 10 ≤ 2) ∧ ((43 ≤ i % 44 ∧ i % 44 < 44) → 0 ≤ v ∧ v ≤ 8) := hv
  show ((0 ≤ j % 44 ∧ j % 44 < 6) → 0 ≤ v ∧ v ≤ 3) ∧ ((6 ≤ j % 44 ∧ j % 44 < 12) → 0 ≤ v ∧ v ≤ 6) ∧ ((12 ≤ j % 44 ∧ j % 44 < 18) → 0 ≤ v ∧ v ≤ 5) ∧ ((18 ≤ j % 44 ∧ j % 44 < 19) → 0 ≤ v ∧ v ≤ 3) ∧ ((19 ≤ j % 44 ∧ j % 44 < 25) → 0 ≤ v ∧ v ≤ 5) ∧ ((25 ≤ j % 44 ∧ j % 44 < 26) → 0 ≤ v ∧ v ≤ 3) ∧ ((26 ≤ j % 44 ∧ j % 44 < 29) → 0 ≤ v ∧ v ≤ 9) ∧ ((29 ≤ j % 44 ∧ j % 44 < 32) → 0 ≤ v ∧ v ≤ 6) ∧ ((32 ≤ j % 44 ∧ j % 44 < 35) → 0 ≤ v ∧ v ≤ 999) ∧ ((35 ≤ j % 44 ∧ j % 44 < 43) → 0 ≤ v ∧ v ≤ 52 ∧ v % 10 ≤ 2) ∧ ((43 ≤ j % 44 ∧ j % 44 < 44) → 0 ≤ v ∧ v ≤ 8)
  rw [← hj]
  exact hv)
theorem ip_101_0 {σ : h_S} (h : h_I σ) {j v : Int} (hj : 0 ≤ j % 44 ∧ j % 44 < 6) (hv : 0 ≤ v ∧ v ≤ 3) : h_I (h_up σ 101 j v) := in_101 h ⟨fun _ => hv, fun e => absurd e (by omega), fun e => absurd e (by omega), fun e => absurd e (by omega), fun e => absurd e (by omega), fun e => absurd e (by omega), fun e => absurd e (by omega), fun e => absurd e (by omega), fun e => absurd e (by omega), fun e => absurd e (by omega), fun e => absurd e (by omega)⟩
theorem ip_101_1 {σ : h_S} (h : h_I σ) {j v : Int} (hj : 6 ≤ j % 44 ∧ j % 44 < 12) (hv : 0 ≤ v ∧ v ≤ 6) : h_I (h_up σ 101 j v) := in_101 h ⟨fun e => absurd e (by omega), fun _ => hv, fun e => absurd e (by omega), fun e => absurd e (by omega), fun e => absurd e (by omega), fun e => absurd e (by omega), fun e => absurd e (by omega), fun e => absurd e (by omega), fun e => absurd e (by omega), fun e => absurd e (by omega), fun e => absurd e (by omega)⟩
theorem ip_101_2 {σ : h_S} (h : h_I σ) {j v : Int} (hj : 12 ≤ j % 44 ∧ j % 44 < 18) (hv : 0 ≤ v ∧ v ≤ 5) : h_I (h_up σ 101 j v) := in_101 h ⟨fun e => absurd e (by omega), fun e => absurd e (by omega), fun _ => hv, fun e => absurd e (by omega), fun e => absurd e (by omega), fun e => absurd e (by omega), fun e => absurd e (by omega), fun e => absurd e (by omega), fun e => absurd e (by omega), fun e => absurd e (by omega), fun e => absurd e (by omega)⟩
theorem ip_101_3 {σ : h_S} (h : h_I σ) {j v : Int} (hj : 18 ≤ j % 44 ∧ j % 44 < 19) (hv : 0 ≤ v ∧ v ≤ 3) : h_I (h_up σ 101 j v) := in_101 h ⟨fun e => absurd e (by omega), fun e => absurd e (by omega), fun e => absurd e (by omega), fun _ => hv, fun e => absurd e (by omega), fun e => absurd e (by omega), fun e => absurd e (by omega), fun e => absurd e (by omega), fun e => absurd e (by omega), fun e => absurd e (by omega), fun e => absurd e (by omega)⟩
theorem ip_101_4 {σ : h_S} (h : h_I σ) {j v : Int} (hj : 19 ≤ j % 44 ∧ j % 44 < 25) (hv : 0 ≤ v ∧ v ≤ 5) : h_I (h_up σ 101 j v) := in_101 h ⟨fun e => absurd e (by omega), fun e => absurd e (by omega), fun e => absurd e (by omega), fun e => absurd e (by omega), fun _ => hv, fun e => absurd e (by omega), fun e => absurd e (by omega), fun e => absurd e (by omega), fun e => absurd e (by omega), fun e => absurd e (by omega), fun e => absurd e (by omega)⟩
theorem ip_101_5 {σ : h_S} (h : h_I σ) {j v : Int} (hj : 25 ≤ j % 44 ∧ j % 44 < 26) (hv : 0 ≤ v ∧ v ≤ 3) : h_I (h_up σ 101 j v) := in_101 h ⟨fun e => absurd e (by omega), fun e => absurd e (by omega), fun e => absurd e (by omega), fun e => absurd e (by omega), fun e => absurd e (by omega), fun _ => hv, fun e => absurd e (by omega), fun e => absurd e (by omega), fun e => absurd e (by omega), fun e => absurd e (by omega), fun e => absurd e (by omega)⟩
theorem ip_101_6 {σ : h_S} (h : h_I σ) {j v : Int} (hj : 26 ≤ j % 44 ∧ j % 44 < 29) (hv : 0 ≤ v ∧ v ≤ 9) : h_I (h_up σ 101 j v) := in_101 h ⟨fun e => absurd e (by omega), fun e => absurd e (by omega), fun e => absurd e (by omega), fun e => absurd e (by omega), fun e => absurd e (by omega), fun e => absurd e (by omega), fun _ => hv, fun e => absurd e (by omega), fun e => absurd e (by omega), fun e => absurd e (by omega), fun e => absurd e (by omega)⟩
theorem ip_101_7 {σ : h_S} (h : h_I σ) {j v : Int} (hj : 29 ≤ j % 44 ∧ j % 44 < 32) (hv : 0 ≤ v ∧ v ≤ 6) : h_I (h_up σ 101 j v) := in_101 h ⟨fun e => absurd e (by omega), fun e => absurd e (by omega), fun e => absurd e (by omega), fun e => absurd e (by omega), fun e => absurd e (by omega), fun e => absurd e (by omega), fun e => absurd e (by omega), fun _ => hv, fun e => absurd e (by omega), fun e => absurd e (by omega), fun e => absurd e (by omega)⟩
theorem ip_101_9 {σ : h_S} (h : h_I σ) {j v : Int} (hj : 35 ≤ j % 44 ∧ j % 44 < 43) (hv : 0 ≤ v ∧ v ≤ 52 ∧ v % 10 ≤ 2) : h_I (h_up σ 101 j v) := in_101 h ⟨fun e => absurd e (by omega), fun e => absurd e (by omega), fun e => absurd e (by omega), fun e => absurd e (by omega), fun e => absurd e (by omega), fun e => absurd e (by omega), fun e => absurd e (by omega), fun e => absurd e (by omega), fun e => absurd e (by omega), fun _ => hv, fun e => absurd e (by omega)⟩
theorem ip_101_10 {σ : h_S} (h : h_I σ) {j v : Int} (hj : 43 ≤ j % 44 ∧ j % 44 < 44) (hv : 0 ≤ v ∧ v ≤ 8) : h_I (h_up σ 101 j v) := in_101 h ⟨fun e => absurd e (by omega), fun e => absurd e (by omega), fun e => absurd e (by omega), fun e => absurd e (by omega), fun e => absurd e (by omega), fun e => absurd e (by omega), fun e => absurd e (by omega), fun e => absurd e (by omega), fun e => absurd e (by omega), fun e => absurd e (by omega), fun _ => hv⟩
theorem iz_101 {σ : h_S} (h : h_I σ) {j : Int} : h_I (h_up σ 101 j 0) := in_101 h ⟨fun _ => by omega, fun _ => by omega, fun _ => by omega, fun _ => by omega, fun _ => by omega, fun _ => by omega, fun _ => by omega, fun _ => by omega, fun _ => by omega, fun _ => by omega, fun _ => by omega⟩
theorem ci_m20 : (Int32.ofInt (-20)).toInt = (-20) := by decide
theorem cb_m20 : (Int8.ofInt (-20)).toInt32 = Int32.ofInt (-20) := by decide
theorem ci_m14 : (Int32.ofInt (-14)).toInt = (-14) := by decide
theorem cb_m14 : (Int8.ofInt (-14)).toInt32 = Int32.ofInt (-14) := by decide
theorem cb_m12 : (Int8.ofInt (-12)).toInt32 = Int32.ofInt (-12) := by decide
theorem cb_m11 : (Int8.ofInt (-11)).toInt32 = Int32.ofInt (-11) := by decide
theorem ci_m10 : (Int32.ofInt (-10)).toInt = (-10) := by decide
theorem cb_m10 : (Int8.ofInt (-10)).toInt32 = Int32.ofInt (-10) := by decide
theorem ci_m4 : (Int32.ofInt (-4)).toInt = (-4) := by decide
theorem cb_m4 : (Int8.ofInt (-4)).toInt32 = Int32.ofInt (-4) := by decide
theorem ci_m3 : (Int32.ofInt (-3)).toInt = (-3) := by decide
theorem cb_m3 : (Int8.ofInt (-3)).toInt32 = Int32.ofInt (-3) := by decide
theorem ci_m2 : (Int32.ofInt (-2)).toInt = (-2) := by decide
theorem cb_m2 : (Int8.ofInt (-2)).toInt32 = Int32.ofInt (-2) := by decide
theorem ci_m1 : (Int32.ofInt (-1)).toInt = (-1) := by decide
theorem ci_0 : (Int32.ofInt 0).toInt = 0 := by decide
theorem ci_1 : (Int32.ofInt 1).toInt = 1 := by decide
theorem ci_2 : (Int32.ofInt 2).toInt = 2 := by decide
theorem ci_3 : (Int32.ofInt 3).toInt = 3 := by decide
theorem ci_4 : (Int32.ofInt 4).toInt = 4 := by decide
theorem ci_5 : (Int32.ofInt 5).toInt = 5 := by decide
theorem ci_6 : (Int32.ofInt 6).toInt = 6 := by decide
theorem cb_6 : (Int8.ofInt 6).toInt32 = Int32.ofInt 6 := by decide
theorem ci_7 : (Int32.ofInt 7).toInt = 7 := by decide
theorem cb_7 : (Int8.ofInt 7).toInt32 = Int32.ofInt 7 := by decide
theorem ci_8 : (Int32.ofInt 8).toInt = 8 := by decide
theorem cb_8 : (Int8.ofInt 8).toInt32 = Int32.ofInt 8 := by decide
theorem ci_9 : (Int32.ofInt 9).toInt = 9 := by decide
theorem cb_9 : (Int8.ofInt 9).toInt32 = Int32.ofInt 9 := by decide
theorem ci_10 : (Int32.ofInt 10).toInt = 10 := by decide
theorem cb_10 : (Int8.ofInt 10).toInt32 = Int32.ofInt 10 := by decide
theorem ci_12 : (Int32.ofInt 12).toInt = 12 := by decide
theorem cb_12 : (Int8.ofInt 12).toInt32 = Int32.ofInt 12 := by decide
theorem cb_16 : (Int8.ofInt 16).toInt32 = Int32.ofInt 16 := by decide
theorem ci_18 : (Int32.ofInt 18).toInt = 18 := by decide
theorem cb_18 : (Int8.ofInt 18).toInt32 = Int32.ofInt 18 := by decide
theorem ci_19 : (Int32.ofInt 19).toInt = 19 := by decide
theorem cb_19 : (Int8.ofInt 19).toInt32 = Int32.ofInt 19 := by decide
theorem ci_20 : (Int32.ofInt 20).toInt = 20 := by decide
theorem cb_20 : (Int8.ofInt 20).toInt32 = Int32.ofInt 20 := by decide
theorem cb_24 : (Int8.ofInt 24).toInt32 = Int32.ofInt 24 := by decide
theorem ci_25 : (Int32.ofInt 25).toInt = 25 := by decide
theorem cb_25 : (Int8.ofInt 25).toInt32 = Int32.ofInt 25 := by decide
theorem ci_26 : (Int32.ofInt 26).toInt = 26 := by decide
theorem cb_26 : (Int8.ofInt 26).toInt32 = Int32.ofInt 26 := by decide
theorem ci_29 : (Int32.ofInt 29).toInt = 29 := by decide
theorem cb_29 : (Int8.ofInt 29).toInt32 = Int32.ofInt 29 := by decide
theorem ci_32 : (Int32.ofInt 32).toInt = 32 := by decide
theorem cb_32 : (Int8.ofInt 32).toInt32 = Int32.ofInt 32 := by decide
theorem ci_35 : (Int32.ofInt 35).toInt = 35 := by decide
theorem cb_35 : (Int8.ofInt 35).toInt32 = Int32.ofInt 35 := by decide
theorem ci_36 : (Int32.ofInt 36).toInt = 36 := by decide
theorem cb_36 : (Int8.ofInt 36).toInt32 = Int32.ofInt 36 := by decide
theorem ci_40 : (Int32.ofInt 40).toInt = 40 := by decide
theorem cb_40 : (Int8.ofInt 40).toInt32 = Int32.ofInt 40 := by decide
theorem ci_43 : (Int32.ofInt 43).toInt = 43 := by decide
theorem cb_43 : (Int8.ofInt 43).toInt32 = Int32.ofInt 43 := by decide
theorem ci_44 : (Int32.ofInt 44).toInt = 44 := by decide
theorem cb_44 : (Int8.ofInt 44).toInt32 = Int32.ofInt 44 := by decide
theorem ci_60 : (Int32.ofInt 60).toInt = 60 := by decide
theorem cb_60 : (Int8.ofInt 60).toInt32 = Int32.ofInt 60 := by decide
theorem ci_63 : (Int32.ofInt 63).toInt = 63 := by decide
theorem cb_63 : (Int8.ofInt 63).toInt32 = Int32.ofInt 63 := by decide
theorem ci_88 : (Int32.ofInt 88).toInt = 88 := by decide
theorem ci_132 : (Int32.ofInt 132).toInt = 132 := by decide
theorem cs_132 : (Int16.ofInt 132).toInt32 = Int32.ofInt 132 := by decide
theorem ci_161 : (Int32.ofInt 161).toInt = 161 := by decide
theorem cs_161 : (Int16.ofInt 161).toInt32 = Int32.ofInt 161 := by decide
theorem ci_176 : (Int32.ofInt 176).toInt = 176 := by decide
theorem cs_176 : (Int16.ofInt 176).toInt32 = Int32.ofInt 176 := by decide
theorem ci_182 : (Int32.ofInt 182).toInt = 182 := by decide
theorem cs_182 : (Int16.ofInt 182).toInt32 = Int32.ofInt 182 := by decide
theorem ci_202 : (Int32.ofInt 202).toInt = 202 := by decide
theorem cs_202 : (Int16.ofInt 202).toInt32 = Int32.ofInt 202 := by decide
theorem ci_999 : (Int32.ofInt 999).toInt = 999 := by decide
theorem cs_999 : (Int16.ofInt 999).toInt32 = Int32.ofInt 999 := by decide
theorem ci_1000 : (Int32.ofInt 1000).toInt = 1000 := by decide
theorem cs_1000 : (Int16.ofInt 1000).toInt32 = Int32.ofInt 1000 := by decide
theorem cs_12345 : (Int16.ofInt 12345).toInt32 = Int32.ofInt 12345 := by decide
theorem ci_32767 : (Int32.ofInt 32767).toInt = 32767 := by decide
theorem cs_32767 : (Int16.ofInt 32767).toInt32 = Int32.ofInt 32767 := by decide
theorem ci_1000000 : (Int32.ofInt 1000000).toInt = 1000000 := by decide
theorem ci_252645135 : (Int32.ofInt 252645135).toInt = 252645135 := by decide
theorem ci_858993459 : (Int32.ofInt 858993459).toInt = 858993459 := by decide
theorem ci_1431655765 : (Int32.ofInt 1431655765).toInt = 1431655765 := by decide
theorem cl_0 : (Int64.ofInt 0).toInt = 0 := by decide
theorem cl_1 : (Int64.ofInt 1).toInt = 1 := by decide
theorem cl_2 : (Int64.ofInt 2).toInt = 2 := by decide
theorem cl_3 : (Int64.ofInt 3).toInt = 3 := by decide
theorem cl_7 : (Int64.ofInt 7).toInt = 7 := by decide
theorem cl_9 : (Int64.ofInt 9).toInt = 9 := by decide
theorem cl_10 : (Int64.ofInt 10).toInt = 10 := by decide
theorem cl_20 : (Int64.ofInt 20).toInt = 20 := by decide
theorem cl_60 : (Int64.ofInt 60).toInt = 60 := by decide
