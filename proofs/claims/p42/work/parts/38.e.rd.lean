/-! READING A SHEET -/
def g_fz (z ln lane e : Int) : Int := if z = -4 then 1 else if ¬ ln = lane then 3 else if 0 ≤ e ∧ e + 1 < z then 0 else 2
theorem g_fz_v {z ln lane e : Int} : (z = -4 ∧ g_fz z ln lane e = 1) ∨ (¬ z = -4 ∧ ¬ ln = lane ∧ g_fz z ln lane e = 3) ∨ (¬ z = -4 ∧ ln = lane ∧ 0 ≤ e ∧ e + 1 < z ∧ g_fz z ln lane e = 0) ∨ (¬ z = -4 ∧ ln = lane ∧ ¬ (0 ≤ e ∧ e + 1 < z) ∧ g_fz z ln lane e = 2) := by
  unfold g_fz
  by_cases c : z = -4
  · rw [if_pos c]
    exact Or.inl ⟨c, rfl⟩
  · rw [if_neg c]
    by_cases d : ln = lane
    · rw [if_neg (fun x => x d)]
      by_cases x : 0 ≤ e ∧ e + 1 < z
      · rw [if_pos x]
        exact Or.inr (Or.inr (Or.inl ⟨c, d, x.1, x.2, rfl⟩))
      · rw [if_neg x]
        exact Or.inr (Or.inr (Or.inr ⟨c, d, x, rfl⟩))
    · rw [if_pos d]
      exact Or.inr (Or.inl ⟨c, d, rfl⟩)
def g_ok (n m p g : Int) : Bool := decide (0 ≤ p ∧ p < n ∧ 0 ≤ g ∧ g < m)
def g_rd (Z : Int → Int) (ok : Int → Bool) : Nat → Int → Int × Int
  | 0, i => (i, 0)
  | m + 1, i => if Z i = 0 then (if ok i = true then g_rd Z ok m (i + 1) else (-20 - i, 0)) else (i, Z i)
section RD
variable {Z : Int → Int} {ok : Int → Bool} {m m' : Nat} {i : Int} {T : Int × Int}
theorem g_rd_s (h : g_rd Z ok m i = T) (hm : m = m' + 1) (hz : Z i = 0) (ho : ok i = true) : g_rd Z ok m' (i + 1) = T := by
  subst hm
  rw [← h]
  show _ = (if Z i = 0 then (if ok i = true then g_rd Z ok m' (i + 1) else (-20 - i, 0)) else (i, Z i))
  rw [if_pos hz, if_pos ho]
theorem g_rd_b (h : g_rd Z ok m i = T) (hm : m = m' + 1) (hz : Z i = 0) (ho : ok i = false) : (-20 - i, 0) = T := by
  subst hm
  rw [← h]
  show _ = (if Z i = 0 then (if ok i = true then g_rd Z ok m' (i + 1) else (-20 - i, 0)) else (i, Z i))
  rw [if_pos hz, ho]
  rfl
theorem g_rd_f (h : g_rd Z ok m i = T) (hm : m = m' + 1) {z : Int} (hz : z = Z i) (hn : ¬ z = 0) : (i, z) = T := by
  subst hm; subst hz
  rw [← h]
  show _ = (if Z i = 0 then (if ok i = true then g_rd Z ok m' (i + 1) else (-20 - i, 0)) else (i, Z i))
  rw [if_neg hn]
theorem g_rd_0 (h : g_rd Z ok m i = T) (hm : m = 0) : (i, 0) = T := by
  subst hm
  exact h
end RD
theorem g_rd_eq {Z Z' : Int → Int} {ok ok' : Int → Bool} {n : Int} (h : ∀ i, 0 ≤ i → i < n → Z i = Z' i ∧ (Z i = 0 → ok i = ok' i)) : ∀ (m : Nat) (i : Int), 0 ≤ i → i + m ≤ n → g_rd Z ok m i = g_rd Z' ok' m i
  | 0, _, _, _ => rfl
  | m + 1, i, i0, im => by
    show (if Z i = 0 then (if ok i = true then g_rd Z ok m (i + 1) else (-20 - i, 0)) else (i, Z i)) = (if Z' i = 0 then (if ok' i = true then g_rd Z' ok' m (i + 1) else (-20 - i, 0)) else (i, Z' i))
    have y := h i i0 (by omega)
    rw [← y.1]
    by_cases c : Z i = 0
    · rw [if_pos c, if_pos c, ← y.2 c, g_rd_eq h m (i + 1) (by omega) (by omega)]
    · rw [if_neg c, if_neg c]
theorem g_rd_w {Z : Int → Int} {ok : Int → Bool} {w f : Int} (hw : 0 ≤ w) : ∀ (m : Nat) (i : Int), 0 ≤ i → g_rd Z ok m i = (w, f) → i ≤ w ∧ w ≤ i + m ∧ ∀ j, i ≤ j → j < w → Z j = 0 ∧ ok j = true
  | 0, i, i0, h => by
    have e : i = w := congrArg Prod.fst h
    exact ⟨by omega, by omega, fun j a b => by omega⟩
  | m + 1, i, i0, h => by
    have h : (if Z i = 0 then (if ok i = true then g_rd Z ok m (i + 1) else (-20 - i, 0)) else (i, Z i)) = (w, f) := h
    by_cases c : Z i = 0
    · rw [if_pos c] at h
      by_cases d : ok i = true
      · rw [if_pos d] at h
        have y := g_rd_w hw m (i + 1) (by omega) h
        refine ⟨by omega, by omega, fun j a b => ?_⟩
        by_cases x : j = i
        · rw [x]
          exact ⟨c, d⟩
        · exact y.2.2 j (by omega) b
      · rw [if_neg d] at h
        have e : -20 - i = w := congrArg Prod.fst h
        exfalso
        omega
    · rw [if_neg c] at h
      have e : i = w := congrArg Prod.fst h
      exact ⟨by omega, by omega, fun j a b => by omega⟩
/-- goings one behind another: the class's -/
def g_gs (y : Int → Int → Int → Bool) (p g : Int) (x : (Int → Int) × (Int → Int)) : (Int → Int) × (Int → Int) := if y p (x.1 g) g = true then (g_set x.1 g p, g_set x.2 g (g_w1n (x.2 g))) else x
def g_gfo (y : Int → Int → Int → Bool) (P G : Int → Int) (x : (Int → Int) × (Int → Int)) : Nat → (Int → Int) × (Int → Int)
  | 0 => x
  | m + 1 => g_gs y (P (m : Int)) (G (m : Int)) (g_gfo y P G x m)
/-- the reference's -/
def g_gM (n : Int) (t S S' : Int → Int) (p g : Int) : Prop := ∃ G, g_DM n (S 18) S t G ∧ ((g_yM G (fun i => S (19 + 2 * i)) (fun i => S (19 + 2 * i + 1)) (S 25) p (g_orn (S (29 + g))) (S (26 + g)) = true ∧ S' = g_set (g_set S (29 + g) (p + 1)) (32 + g) (g_w1n (S (32 + g)))) ∨ (g_yM G (fun i => S (19 + 2 * i)) (fun i => S (19 + 2 * i + 1)) (S 25) p (g_orn (S (29 + g))) (S (26 + g)) = false ∧ S' = S))
def g_hf (n : Int) (t P G S : Int → Int) : Nat → (Int → Int) → Prop
  | 0, S' => S' = S
  | m + 1, S' => ∃ S1, g_hf n t P G S m S1 ∧ g_gM n t S1 S' (P (m : Int)) (G (m : Int))
theorem g_hf_s {n k : Int} {t P G S S1 S2 : Int → Int} {p g : Int} (h : g_hf n t P G S k.toNat S1) (k0 : 0 ≤ k) (hg : g_gM n t S1 S2 p g) (hp : p = P k) (hg' : g = G k) : g_hf n t P G S (k + 1).toNat S2 := by
  rw [show (k + 1).toNat = k.toNat + 1 by omega]
  refine ⟨S1, h, ?_⟩
  rw [show ((k.toNat : Nat) : Int) = k by omega, ← hp, ← hg']
  exact hg
theorem g_gf_s {y : Int → Int → Int → Bool} {P G L W L' W' : Int → Int} {x : (Int → Int) × (Int → Int)} {k p g : Int} (h : (L, W) = g_gfo y P G x k.toNat) (k0 : 0 ≤ k) (hp : p = P k) (hg : g = G k) (hs : (y p (L g) g = true ∧ L' = g_set L g p ∧ W' = g_set W g (g_w1n (W g))) ∨ (y p (L g) g = false ∧ L' = L ∧ W' = W)) : (L', W') = g_gfo y P G x (k + 1).toNat := by
  rw [show (k + 1).toNat = k.toNat + 1 by omega]
  show _ = g_gs y (P (k.toNat : Int)) (G (k.toNat : Int)) (g_gfo y P G x k.toNat)
  rw [show ((k.toNat : Nat) : Int) = k by omega, ← hp, ← hg, ← h]
  show (L', W') = (if y p (L g) g = true then (g_set L g p, g_set W g (g_w1n (W g))) else (L, W))
  rcases hs with c | c
  · rw [if_pos c.1, c.2.1, c.2.2]
  · rw [if_neg (by rw [c.1]; exact Bool.false_ne_true), c.2.1, c.2.2]
/-- a page but for LAST and WENT of page 0 -/
def g_sm (S S' : Int → Int) : Prop := ∀ j, ¬ (29 ≤ j ∧ j < 35) → S' j = S j
theorem g_hf_sm {n ng : Int} {t P G S : Int → Int} (hng : ng ≤ 3) : ∀ (m : Nat) (S' : Int → Int), (∀ i : Int, 0 ≤ i → i < m → 0 ≤ G i ∧ G i < ng) → g_hf n t P G S m S' → g_sm S S'
  | 0, S', _, h => by
    have h : S' = S := h
    subst h
    exact fun j _ => rfl
  | m + 1, S', hG, ⟨S1, h1, G0, _, h2⟩ => by
    have y := g_hf_sm hng m S1 (fun i a b => hG i a (by omega)) h1
    have b := hG (m : Int) (by omega) (by omega)
    intro j hj
    rw [← y j hj]
    rcases h2 with ⟨_, e⟩ | ⟨_, e⟩
    · rw [e, g_set_n (by omega), g_set_n (by omega)]
    · rw [e]
theorem g_DM_sm {n m : Int} {S S' t G : Int → Int} (h : g_DM n m S' t G) (e : ∀ j, 0 ≤ j → j < 29 → S' j = S j) (m3 : m ≤ 3) (n6 : n ≤ 6) : g_DM n m S t G := by
  obtain ⟨f0, h0, h1⟩ := h
  refine ⟨f0, h0, ?_⟩
  have e1 : ∀ (k : Nat) (p : Int) (f : Int → Int), 0 ≤ p → g_q1 n S' t k p f = g_q1 n S t k p f := by
    intro k
    induction k with
    | zero => intro p f _; rfl
    | succ k ih =>
      intro p f p0
      show (if p < n then g_q1 n S' t k (p + 1) (if 0 < S' (6 + p) then g_lk f p (S' (6 + p) - 1) (t (S' p)) else f) else f) = (if p < n then g_q1 n S t k (p + 1) (if 0 < S (6 + p) then g_lk f p (S (6 + p) - 1) (t (S p)) else f) else f)
      by_cases c : p < n
      · rw [if_pos c, if_pos c, e (6 + p) (by omega) (by omega), e p (by omega) (by omega), ih _ _ (by omega)]
      · rw [if_neg c, if_neg c]
  have e2 : ∀ (k : Nat) (i : Int) (f : Int → Int), 0 ≤ i → g_q2 m S' k i f = g_q2 m S k i f := by
    intro k
    induction k with
    | zero => intro i f _; rfl
    | succ k ih =>
      intro i f i0
      show (if i < m then g_q2 m S' k (i + 1) (g_lk f (S' (12 + 2 * i)) (S' (12 + 2 * i + 1)) 1) else f) = (if i < m then g_q2 m S k (i + 1) (g_lk f (S (12 + 2 * i)) (S (12 + 2 * i + 1)) 1) else f)
      by_cases c : i < m
      · rw [if_pos c, if_pos c, e (12 + 2 * i) (by omega) (by omega), e (12 + 2 * i + 1) (by omega) (by omega), ih _ _ (by omega)]
      · rw [if_neg c, if_neg c]
  rw [h1]
  unfold gd_v1 gd_v2
  rw [e1 _ _ _ (by omega), e2 _ _ _ (by omega)]
/-- LASTS and WENTS of both sides -/
def g_la (ng n : Int) (x : (Int → Int) × (Int → Int)) (S : Int → Int) : Prop := ∀ j, 0 ≤ j → j < ng → ((x.1 j = -4 ∧ S (29 + j) = 0) ∨ (0 ≤ x.1 j ∧ x.1 j < n ∧ S (29 + j) = x.1 j + 1)) ∧ x.2 j = S (32 + j)
theorem g_la_s {n ng p g : Int} {t S S' : Int → Int} {y : Int → Int → Int → Bool} {x : (Int → Int) × (Int → Int)} (h : g_la ng n x S) (n3 : ng ≤ 3) (hp : 0 ≤ p ∧ p < n) (hg : 0 ≤ g ∧ g < ng) (hM : g_gM n t S S' p g) (hy : ∀ G, g_DM n (S 18) S t G → ∀ l, l = x.1 g → y p l g = g_yM G (fun i => S (19 + 2 * i)) (fun i => S (19 + 2 * i + 1)) (S 25) p (g_orn (S (29 + g))) (S (26 + g))) : g_la ng n (g_gs y p g x) S' := by
  obtain ⟨G, hG, hM⟩ := hM
  have ey := hy G hG _ rfl
  unfold g_gs
  rcases hM with ⟨c, e⟩ | ⟨c, e⟩
  · rw [if_pos (ey.trans c)]
    intro j j0 j1
    have hj := h j j0 j1
    have hgg := h g hg.1 hg.2
    rw [e]
    by_cases z : j = g
    · subst z
      refine ⟨Or.inr ⟨?_, ?_, ?_⟩, ?_⟩
      · show 0 ≤ g_set x.1 j p j
        rw [g_set_p rfl]
        exact hp.1
      · show g_set x.1 j p j < n
        rw [g_set_p rfl]
        exact hp.2
      · show _ = g_set x.1 j p j + 1
        rw [g_set_p rfl, g_set_n (by omega), g_set_p rfl]
      · show g_set x.2 j (g_w1n (x.2 j)) j = _
        rw [g_set_p rfl, g_set_p rfl, hgg.2]
    · show ((g_set x.1 g p j = -4 ∧ _) ∨ (0 ≤ g_set x.1 g p j ∧ g_set x.1 g p j < n ∧ _ = g_set x.1 g p j + 1)) ∧ g_set x.2 g (g_w1n (x.2 g)) j = _
      rw [g_set_n z, g_set_n z, g_set_n (by omega), g_set_n (by omega), g_set_n (by omega), g_set_n (by omega)]
      exact hj
  · have ey : y p (x.1 g) g = false := ey.trans c
    rw [if_neg (by rw [ey]; exact Bool.false_ne_true), e]
    exact h
