/-! NAMES -/
def g_nm0 (f : Int → Int) (p l : Int) : Prop := l = 5 ∧ f (p + 0) = 112 ∧ f (p + 1) = 108 ∧ f (p + 2) = 97 ∧ f (p + 3) = 105 ∧ f (p + 4) = 110
def g_nm1 (f : Int → Int) (p l : Int) : Prop := l = 7 ∧ f (p + 0) = 97 ∧ f (p + 1) = 100 ∧ f (p + 2) = 111 ∧ f (p + 3) = 112 ∧ f (p + 4) = 116 ∧ f (p + 5) = 101 ∧ f (p + 6) = 100
def g_nm2 (f : Int → Int) (p l : Int) : Prop := l = 7 ∧ f (p + 0) = 98 ∧ f (p + 1) = 97 ∧ f (p + 2) = 115 ∧ f (p + 3) = 116 ∧ f (p + 4) = 97 ∧ f (p + 5) = 114 ∧ f (p + 6) = 100
def g_nm3 (f : Int → Int) (p l : Int) : Prop := l = 8 ∧ f (p + 0) = 101 ∧ f (p + 1) = 115 ∧ f (p + 2) = 116 ∧ f (p + 3) = 114 ∧ f (p + 4) = 97 ∧ f (p + 5) = 110 ∧ f (p + 6) = 103 ∧ f (p + 7) = 101
def g_nm4 (f : Int → Int) (p l : Int) : Prop := l = 5 ∧ f (p + 0) = 109 ∧ f (p + 1) = 97 ∧ f (p + 2) = 114 ∧ f (p + 3) = 114 ∧ f (p + 4) = 121
def g_nm5 (f : Int → Int) (p l : Int) : Prop := l = 4 ∧ f (p + 0) = 102 ∧ f (p + 1) = 101 ∧ f (p + 2) = 117 ∧ f (p + 3) = 100
def g_nm6 (f : Int → Int) (p l : Int) : Prop := l = 4 ∧ f (p + 0) = 103 ∧ f (p + 1) = 97 ∧ f (p + 2) = 116 ∧ f (p + 3) = 101
def g_nm7 (f : Int → Int) (p l : Int) : Prop := l = 4 ∧ f (p + 0) = 112 ∧ f (p + 1) = 108 ∧ f (p + 2) = 97 ∧ f (p + 3) = 110
def g_fst (f : Int → Int) (p l r : Int) : Prop := (r = -4 ∧ ¬ g_nm0 f p l ∧ ¬ g_nm1 f p l ∧ ¬ g_nm2 f p l ∧ ¬ g_nm3 f p l ∧ ¬ g_nm4 f p l ∧ ¬ g_nm5 f p l ∧ ¬ g_nm6 f p l ∧ ¬ g_nm7 f p l) ∨ (r = 0 ∧ g_nm0 f p l) ∨ (r = 1 ∧ ¬ g_nm0 f p l ∧ g_nm1 f p l) ∨ (r = 2 ∧ ¬ g_nm0 f p l ∧ ¬ g_nm1 f p l ∧ g_nm2 f p l) ∨ (r = 3 ∧ ¬ g_nm0 f p l ∧ ¬ g_nm1 f p l ∧ ¬ g_nm2 f p l ∧ g_nm3 f p l) ∨ (r = 4 ∧ ¬ g_nm0 f p l ∧ ¬ g_nm1 f p l ∧ ¬ g_nm2 f p l ∧ ¬ g_nm3 f p l ∧ g_nm4 f p l) ∨ (r = 5 ∧ ¬ g_nm0 f p l ∧ ¬ g_nm1 f p l ∧ ¬ g_nm2 f p l ∧ ¬ g_nm3 f p l ∧ ¬ g_nm4 f p l ∧ g_nm5 f p l) ∨ (r = 6 ∧ ¬ g_nm0 f p l ∧ ¬ g_nm1 f p l ∧ ¬ g_nm2 f p l ∧ ¬ g_nm3 f p l ∧ ¬ g_nm4 f p l ∧ ¬ g_nm5 f p l ∧ g_nm6 f p l) ∨ (r = 7 ∧ ¬ g_nm0 f p l ∧ ¬ g_nm1 f p l ∧ ¬ g_nm2 f p l ∧ ¬ g_nm3 f p l ∧ ¬ g_nm4 f p l ∧ ¬ g_nm5 f p l ∧ ¬ g_nm6 f p l ∧ g_nm7 f p l)
theorem gn_1 {b : Int} {N : Prop} (h : (b = 1 ∧ N) ∨ (b = 0 ∧ ¬ N)) (hb : ¬ b = 0) : N := h.elim (fun x => x.2) (fun x => absurd x.1 hb)
theorem gn_0 {b : Int} {N : Prop} (h : (b = 1 ∧ N) ∨ (b = 0 ∧ ¬ N)) (hb : b = 0) : ¬ N := h.elim (fun x => by omega) (fun x => x.2)
theorem g_nmc0 {f g : Int → Int} {p l : Int} (h : ∀ i, p ≤ i → i < p + l → f i = g i) (hn : g_nm0 f p l) : g_nm0 g p l := ⟨hn.1, (h (p + 0) (by omega) (by have := hn.1; omega)).symm.trans hn.2.1, (h (p + 1) (by omega) (by have := hn.1; omega)).symm.trans hn.2.2.1, (h (p + 2) (by omega) (by have := hn.1; omega)).symm.trans hn.2.2.2.1, (h (p + 3) (by omega) (by have := hn.1; omega)).symm.trans hn.2.2.2.2.1, (h (p + 4) (by omega) (by have := hn.1; omega)).symm.trans hn.2.2.2.2.2⟩
theorem g_nmc1 {f g : Int → Int} {p l : Int} (h : ∀ i, p ≤ i → i < p + l → f i = g i) (hn : g_nm1 f p l) : g_nm1 g p l := ⟨hn.1, (h (p + 0) (by omega) (by have := hn.1; omega)).symm.trans hn.2.1, (h (p + 1) (by omega) (by have := hn.1; omega)).symm.trans hn.2.2.1, (h (p + 2) (by omega) (by have := hn.1; omega)).symm.trans hn.2.2.2.1, (h (p + 3) (by omega) (by have := hn.1; omega)).symm.trans hn.2.2.2.2.1, (h (p + 4) (by omega) (by have := hn.1; omega)).symm.trans hn.2.2.2.2.2.1, (h (p + 5) (by omega) (by have := hn.1; omega)).symm.trans hn.2.2.2.2.2.2.1, (h (p + 6) (by omega) (by have := hn.1; omega)).symm.trans hn.2.2.2.2.2.2.2⟩
theorem g_nmc2 {f g : Int → Int} {p l : Int} (h : ∀ i, p ≤ i → i < p + l → f i = g i) (hn : g_nm2 f p l) : g_nm2 g p l := ⟨hn.1, (h (p + 0) (by omega) (by have := hn.1; omega)).symm.trans hn.2.1, (h (p + 1) (by omega) (by have := hn.1; omega)).symm.trans hn.2.2.1, (h (p + 2) (by omega) (by have := hn.1; omega)).symm.trans hn.2.2.2.1, (h (p + 3) (by omega) (by have := hn.1; omega)).symm.trans hn.2.2.2.2.1, (h (p + 4) (by omega) (by have := hn.1; omega)).symm.trans hn.2.2.2.2.2.1, (h (p + 5) (by omega) (by have := hn.1; omega)).symm.trans hn.2.2.2.2.2.2.1, (h (p + 6) (by omega) (by have := hn.1; omega)).symm.trans hn.2.2.2.2.2.2.2⟩
theorem g_nmc3 {f g : Int → Int} {p l : Int} (h : ∀ i, p ≤ i → i < p + l → f i = g i) (hn : g_nm3 f p l) : g_nm3 g p l := ⟨hn.1, (h (p + 0) (by omega) (by have := hn.1; omega)).symm.trans hn.2.1, (h (p + 1) (by omega) (by have := hn.1; omega)).symm.trans hn.2.2.1, (h (p + 2) (by omega) (by have := hn.1; omega)).symm.trans hn.2.2.2.1, (h (p + 3) (by omega) (by have := hn.1; omega)).symm.trans hn.2.2.2.2.1, (h (p + 4) (by omega) (by have := hn.1; omega)).symm.trans hn.2.2.2.2.2.1, (h (p + 5) (by omega) (by have := hn.1; omega)).symm.trans hn.2.2.2.2.2.2.1, (h (p + 6) (by omega) (by have := hn.1; omega)).symm.trans hn.2.2.2.2.2.2.2.1, (h (p + 7) (by omega) (by have := hn.1; omega)).symm.trans hn.2.2.2.2.2.2.2.2⟩
theorem g_nmc4 {f g : Int → Int} {p l : Int} (h : ∀ i, p ≤ i → i < p + l → f i = g i) (hn : g_nm4 f p l) : g_nm4 g p l := ⟨hn.1, (h (p + 0) (by omega) (by have := hn.1; omega)).symm.trans hn.2.1, (h (p + 1) (by omega) (by have := hn.1; omega)).symm.trans hn.2.2.1, (h (p + 2) (by omega) (by have := hn.1; omega)).symm.trans hn.2.2.2.1, (h (p + 3) (by omega) (by have := hn.1; omega)).symm.trans hn.2.2.2.2.1, (h (p + 4) (by omega) (by have := hn.1; omega)).symm.trans hn.2.2.2.2.2⟩
theorem g_nmc5 {f g : Int → Int} {p l : Int} (h : ∀ i, p ≤ i → i < p + l → f i = g i) (hn : g_nm5 f p l) : g_nm5 g p l := ⟨hn.1, (h (p + 0) (by omega) (by have := hn.1; omega)).symm.trans hn.2.1, (h (p + 1) (by omega) (by have := hn.1; omega)).symm.trans hn.2.2.1, (h (p + 2) (by omega) (by have := hn.1; omega)).symm.trans hn.2.2.2.1, (h (p + 3) (by omega) (by have := hn.1; omega)).symm.trans hn.2.2.2.2⟩
theorem g_nmc6 {f g : Int → Int} {p l : Int} (h : ∀ i, p ≤ i → i < p + l → f i = g i) (hn : g_nm6 f p l) : g_nm6 g p l := ⟨hn.1, (h (p + 0) (by omega) (by have := hn.1; omega)).symm.trans hn.2.1, (h (p + 1) (by omega) (by have := hn.1; omega)).symm.trans hn.2.2.1, (h (p + 2) (by omega) (by have := hn.1; omega)).symm.trans hn.2.2.2.1, (h (p + 3) (by omega) (by have := hn.1; omega)).symm.trans hn.2.2.2.2⟩
theorem g_nmc7 {f g : Int → Int} {p l : Int} (h : ∀ i, p ≤ i → i < p + l → f i = g i) (hn : g_nm7 f p l) : g_nm7 g p l := ⟨hn.1, (h (p + 0) (by omega) (by have := hn.1; omega)).symm.trans hn.2.1, (h (p + 1) (by omega) (by have := hn.1; omega)).symm.trans hn.2.2.1, (h (p + 2) (by omega) (by have := hn.1; omega)).symm.trans hn.2.2.2.1, (h (p + 3) (by omega) (by have := hn.1; omega)).symm.trans hn.2.2.2.2⟩
theorem g_fst_uni {f g : Int → Int} {p l r r2 : Int} (h : ∀ i, p ≤ i → i < p + l → f i = g i) (h1 : g_fst f p l r) (h2 : g_fst g p l r2) : r = r2 := by
  have h3 : ∀ i, p ≤ i → i < p + l → g i = f i := fun i a b => (h i a b).symm
  have e0 : g_nm0 f p l ↔ g_nm0 g p l := ⟨g_nmc0 h, g_nmc0 h3⟩
  have e1 : g_nm1 f p l ↔ g_nm1 g p l := ⟨g_nmc1 h, g_nmc1 h3⟩
  have e2 : g_nm2 f p l ↔ g_nm2 g p l := ⟨g_nmc2 h, g_nmc2 h3⟩
  have e3 : g_nm3 f p l ↔ g_nm3 g p l := ⟨g_nmc3 h, g_nmc3 h3⟩
  have e4 : g_nm4 f p l ↔ g_nm4 g p l := ⟨g_nmc4 h, g_nmc4 h3⟩
  have e5 : g_nm5 f p l ↔ g_nm5 g p l := ⟨g_nmc5 h, g_nmc5 h3⟩
  have e6 : g_nm6 f p l ↔ g_nm6 g p l := ⟨g_nmc6 h, g_nmc6 h3⟩
  have e7 : g_nm7 f p l ↔ g_nm7 g p l := ⟨g_nmc7 h, g_nmc7 h3⟩
  unfold g_fst at h1 h2
  simp only [e0, e1, e2, e3, e4, e5, e6, e7] at h1
  rcases h1 with h1 | h1 | h1 | h1 | h1 | h1 | h1 | h1 | h1 <;> rcases h2 with h2 | h2 | h2 | h2 | h2 | h2 | h2 | h2 | h2 <;> first | (rw [h1.1, h2.1]; done) | (exfalso; simp_all; done)
def g_nq (f C L : Int → Int) (p l m : Int) : Prop := l = C (m + 1) - C m ∧ ∀ i, 0 ≤ i → i < l → f (p + i) = L (C m + i)
def g_i0 (σ : h_S) (n : Int) : Prop := ∀ m, 0 ≤ m → m < n → ¬ g_nq (σ 102) (σ 103) (σ 104) (σ 98 16) (σ 98 15 - σ 98 16) m
def g_i1 (σ : h_S) (n e k : Int) : Prop := (e = 1 → (σ 98 15 - σ 98 16 = σ 103 (n + 1) - σ 103 n ∧ ∀ i, 0 ≤ i → i < k → σ 102 (σ 98 16 + i) = σ 104 (σ 103 n + i))) ∧ (e = 0 → ¬ g_nq (σ 102) (σ 103) (σ 104) (σ 98 16) (σ 98 15 - σ 98 16) n)
def g_fq (σ : h_S) (b : Int) : Prop := (b = -4 ∧ g_i0 σ 8) ∨ (0 ≤ b ∧ b < 8 ∧ g_nq (σ 102) (σ 103) (σ 104) (σ 98 16) (σ 98 15 - σ 98 16) b ∧ g_i0 σ b)
theorem g_i0_0 {σ : h_S} : g_i0 σ 0 := fun m a b => by omega
theorem g_i0_m {σ : h_S} {n : Int} (h : g_i0 σ n) (hn : 8 ≤ n) : g_i0 σ 8 := fun m a b => h m a (by omega)
theorem g_i1_a {σ : h_S} {n : Int} (h : σ 98 15 - σ 98 16 = σ 103 (n + 1) - σ 103 n) : g_i1 σ n 1 0 := ⟨fun _ => ⟨h, fun i a b => by omega⟩, fun e => absurd e (by decide)⟩
theorem g_i1_b {σ : h_S} {n : Int} (h : ¬ σ 98 15 - σ 98 16 = σ 103 (n + 1) - σ 103 n) : g_i1 σ n 0 0 := ⟨fun e => absurd e (by decide), fun _ hn => h hn.1⟩
theorem g_i1_s {σ : h_S} {n e k : Int} (h : g_i1 σ n e k) (he : e = 1) (hk : σ 102 (σ 98 16 + k) = σ 104 (σ 103 n + k)) : g_i1 σ n 1 (k + 1) := ⟨fun _ => ⟨(h.1 he).1, fun i a b => by
  rcases (show i < k ∨ i = k by omega) with c | c
  · exact (h.1 he).2 i a c
  · rw [c]; exact hk⟩, fun e => absurd e (by decide)⟩
theorem g_i1_n {σ : h_S} {n k : Int} (h0 : 0 ≤ k) (h1 : k < σ 98 15 - σ 98 16) (hk : ¬ σ 102 (σ 98 16 + k) = σ 104 (σ 103 n + k)) : g_i1 σ n 0 (k + 1) := ⟨fun e => absurd e (by decide), fun _ hn => hk (hn.2 k h0 h1)⟩
theorem g_i0_s {σ : h_S} {n e k : Int} (h : g_i0 σ n) (h1 : g_i1 σ n e k) (he : e = 0) : g_i0 σ (n + 1) := fun m a b => by
  rcases (show m < n ∨ m = n by omega) with c | c
  · exact h m a c
  · rw [c]; exact h1.2 he
theorem g_i1_y {σ : h_S} {n e k : Int} (h : g_i1 σ n e k) (he : e = 1) (hk : σ 98 15 - σ 98 16 ≤ k) : g_nq (σ 102) (σ 103) (σ 104) (σ 98 16) (σ 98 15 - σ 98 16) n := ⟨(h.1 he).1, fun i a b => (h.1 he).2 i a (by omega)⟩
theorem g_nqm0 {σ : h_S} (hI : h_I σ) : g_nq (σ 102) (σ 103) (σ 104) (σ 98 16) (σ 98 15 - σ 98 16) 0 ↔ g_nm0 (σ 102) (σ 98 16) (σ 98 15 - σ 98 16) := by
  have c0 : σ 103 0 = 0 := tx_103_0 hI
  have c1 : σ 103 (0 + 1) = 5 := tx_103_1 hI
  have l0 : σ 104 (σ 103 0 + 0) = 112 := by rw [c0]; exact tx_104_0 hI
  have l1 : σ 104 (σ 103 0 + 1) = 108 := by rw [c0]; exact tx_104_1 hI
  have l2 : σ 104 (σ 103 0 + 2) = 97 := by rw [c0]; exact tx_104_2 hI
  have l3 : σ 104 (σ 103 0 + 3) = 105 := by rw [c0]; exact tx_104_3 hI
  have l4 : σ 104 (σ 103 0 + 4) = 110 := by rw [c0]; exact tx_104_4 hI
  constructor
  · intro h
    have e := h.1
    rw [c0, c1] at e
    exact ⟨by omega, (h.2 0 (by omega) (by omega)).trans l0, (h.2 1 (by omega) (by omega)).trans l1, (h.2 2 (by omega) (by omega)).trans l2, (h.2 3 (by omega) (by omega)).trans l3, (h.2 4 (by omega) (by omega)).trans l4⟩
  · intro h
    have e := h.1
    refine ⟨by rw [c0, c1]; omega, fun i a b => ?_⟩
    rcases (show i = 0 ∨ i = 1 ∨ i = 2 ∨ i = 3 ∨ i = 4 by omega) with rfl | rfl | rfl | rfl | rfl
    · exact h.2.1.trans l0.symm
    · exact h.2.2.1.trans l1.symm
    · exact h.2.2.2.1.trans l2.symm
    · exact h.2.2.2.2.1.trans l3.symm
    · exact h.2.2.2.2.2.trans l4.symm
theorem g_nqm1 {σ : h_S} (hI : h_I σ) : g_nq (σ 102) (σ 103) (σ 104) (σ 98 16) (σ 98 15 - σ 98 16) 1 ↔ g_nm1 (σ 102) (σ 98 16) (σ 98 15 - σ 98 16) := by
  have c0 : σ 103 1 = 5 := tx_103_1 hI
  have c1 : σ 103 (1 + 1) = 12 := tx_103_2 hI
  have l0 : σ 104 (σ 103 1 + 0) = 97 := by rw [c0]; exact tx_104_5 hI
  have l1 : σ 104 (σ 103 1 + 1) = 100 := by rw [c0]; exact tx_104_6 hI
  have l2 : σ 104 (σ 103 1 + 2) = 111 := by rw [c0]; exact tx_104_7 hI
  have l3 : σ 104 (σ 103 1 + 3) = 112 := by rw [c0]; exact tx_104_8 hI
  have l4 : σ 104 (σ 103 1 + 4) = 116 := by rw [c0]; exact tx_104_9 hI
  have l5 : σ 104 (σ 103 1 + 5) = 101 := by rw [c0]; exact tx_104_10 hI
  have l6 : σ 104 (σ 103 1 + 6) = 100 := by rw [c0]; exact tx_104_11 hI
  constructor
  · intro h
    have e := h.1
    rw [c0, c1] at e
    exact ⟨by omega, (h.2 0 (by omega) (by omega)).trans l0, (h.2 1 (by omega) (by omega)).trans l1, (h.2 2 (by omega) (by omega)).trans l2, (h.2 3 (by omega) (by omega)).trans l3, (h.2 4 (by omega) (by omega)).trans l4, (h.2 5 (by omega) (by omega)).trans l5, (h.2 6 (by omega) (by omega)).trans l6⟩
  · intro h
    have e := h.1
    refine ⟨by rw [c0, c1]; omega, fun i a b => ?_⟩
    rcases (show i = 0 ∨ i = 1 ∨ i = 2 ∨ i = 3 ∨ i = 4 ∨ i = 5 ∨ i = 6 by omega) with rfl | rfl | rfl | rfl | rfl | rfl | rfl
    · exact h.2.1.trans l0.symm
    · exact h.2.2.1.trans l1.symm
    · exact h.2.2.2.1.trans l2.symm
    · exact h.2.2.2.2.1.trans l3.symm
    · exact h.2.2.2.2.2.1.trans l4.symm
    · exact h.2.2.2.2.2.2.1.trans l5.symm
    · exact h.2.2.2.2.2.2.2.trans l6.symm
theorem g_nqm2 {σ : h_S} (hI : h_I σ) : g_nq (σ 102) (σ 103) (σ 104) (σ 98 16) (σ 98 15 - σ 98 16) 2 ↔ g_nm2 (σ 102) (σ 98 16) (σ 98 15 - σ 98 16) := by
  have c0 : σ 103 2 = 12 := tx_103_2 hI
  have c1 : σ 103 (2 + 1) = 19 := tx_103_3 hI
  have l0 : σ 104 (σ 103 2 + 0) = 98 := by rw [c0]; exact tx_104_12 hI
  have l1 : σ 104 (σ 103 2 + 1) = 97 := by rw [c0]; exact tx_104_13 hI
  have l2 : σ 104 (σ 103 2 + 2) = 115 := by rw [c0]; exact tx_104_14 hI
  have l3 : σ 104 (σ 103 2 + 3) = 116 := by rw [c0]; exact tx_104_15 hI
  have l4 : σ 104 (σ 103 2 + 4) = 97 := by rw [c0]; exact tx_104_16 hI
  have l5 : σ 104 (σ 103 2 + 5) = 114 := by rw [c0]; exact tx_104_17 hI
  have l6 : σ 104 (σ 103 2 + 6) = 100 := by rw [c0]; exact tx_104_18 hI
  constructor
  · intro h
    have e := h.1
    rw [c0, c1] at e
    exact ⟨by omega, (h.2 0 (by omega) (by omega)).trans l0, (h.2 1 (by omega) (by omega)).trans l1, (h.2 2 (by omega) (by omega)).trans l2, (h.2 3 (by omega) (by omega)).trans l3, (h.2 4 (by omega) (by omega)).trans l4, (h.2 5 (by omega) (by omega)).trans l5, (h.2 6 (by omega) (by omega)).trans l6⟩
  · intro h
    have e := h.1
    refine ⟨by rw [c0, c1]; omega, fun i a b => ?_⟩
    rcases (show i = 0 ∨ i = 1 ∨ i = 2 ∨ i = 3 ∨ i = 4 ∨ i = 5 ∨ i = 6 by omega) with rfl | rfl | rfl | rfl | rfl | rfl | rfl
    · exact h.2.1.trans l0.symm
    · exact h.2.2.1.trans l1.symm
    · exact h.2.2.2.1.trans l2.symm
    · exact h.2.2.2.2.1.trans l3.symm
    · exact h.2.2.2.2.2.1.trans l4.symm
    · exact h.2.2.2.2.2.2.1.trans l5.symm
    · exact h.2.2.2.2.2.2.2.trans l6.symm
theorem g_nqm3 {σ : h_S} (hI : h_I σ) : g_nq (σ 102) (σ 103) (σ 104) (σ 98 16) (σ 98 15 - σ 98 16) 3 ↔ g_nm3 (σ 102) (σ 98 16) (σ 98 15 - σ 98 16) := by
  have c0 : σ 103 3 = 19 := tx_103_3 hI
  have c1 : σ 103 (3 + 1) = 27 := tx_103_4 hI
  have l0 : σ 104 (σ 103 3 + 0) = 101 := by rw [c0]; exact tx_104_19 hI
  have l1 : σ 104 (σ 103 3 + 1) = 115 := by rw [c0]; exact tx_104_20 hI
  have l2 : σ 104 (σ 103 3 + 2) = 116 := by rw [c0]; exact tx_104_21 hI
  have l3 : σ 104 (σ 103 3 + 3) = 114 := by rw [c0]; exact tx_104_22 hI
  have l4 : σ 104 (σ 103 3 + 4) = 97 := by rw [c0]; exact tx_104_23 hI
  have l5 : σ 104 (σ 103 3 + 5) = 110 := by rw [c0]; exact tx_104_24 hI
  have l6 : σ 104 (σ 103 3 + 6) = 103 := by rw [c0]; exact tx_104_25 hI
  have l7 : σ 104 (σ 103 3 + 7) = 101 := by rw [c0]; exact tx_104_26 hI
  constructor
  · intro h
    have e := h.1
    rw [c0, c1] at e
    exact ⟨by omega, (h.2 0 (by omega) (by omega)).trans l0, (h.2 1 (by omega) (by omega)).trans l1, (h.2 2 (by omega) (by omega)).trans l2, (h.2 3 (by omega) (by omega)).trans l3, (h.2 4 (by omega) (by omega)).trans l4, (h.2 5 (by omega) (by omega)).trans l5, (h.2 6 (by omega) (by omega)).trans l6, (h.2 7 (by omega) (by omega)).trans l7⟩
  · intro h
    have e := h.1
    refine ⟨by rw [c0, c1]; omega, fun i a b => ?_⟩
    rcases (show i = 0 ∨ i = 1 ∨ i = 2 ∨ i = 3 ∨ i = 4 ∨ i = 5 ∨ i = 6 ∨ i = 7 by omega) with rfl | rfl | rfl | rfl | rfl | rfl | rfl | rfl
    · exact h.2.1.trans l0.symm
    · exact h.2.2.1.trans l1.symm
    · exact h.2.2.2.1.trans l2.symm
    · exact h.2.2.2.2.1.trans l3.symm
    · exact h.2.2.2.2.2.1.trans l4.symm
    · exact h.2.2.2.2.2.2.1.trans l5.symm
    · exact h.2.2.2.2.2.2.2.1.trans l6.symm
    · exact h.2.2.2.2.2.2.2.2.trans l7.symm
theorem g_nqm4 {σ : h_S} (hI : h_I σ) : g_nq (σ 102) (σ 103) (σ 104) (σ 98 16) (σ 98 15 - σ 98 16) 4 ↔ g_nm4 (σ 102) (σ 98 16) (σ 98 15 - σ 98 16) := by
  have c0 : σ 103 4 = 27 := tx_103_4 hI
  have c1 : σ 103 (4 + 1) = 32 := tx_103_5 hI
  have l0 : σ 104 (σ 103 4 + 0) = 109 := by rw [c0]; exact tx_104_27 hI
  have l1 : σ 104 (σ 103 4 + 1) = 97 := by rw [c0]; exact tx_104_28 hI
  have l2 : σ 104 (σ 103 4 + 2) = 114 := by rw [c0]; exact tx_104_29 hI
  have l3 : σ 104 (σ 103 4 + 3) = 114 := by rw [c0]; exact tx_104_30 hI
  have l4 : σ 104 (σ 103 4 + 4) = 121 := by rw [c0]; exact tx_104_31 hI
  constructor
  · intro h
    have e := h.1
    rw [c0, c1] at e
    exact ⟨by omega, (h.2 0 (by omega) (by omega)).trans l0, (h.2 1 (by omega) (by omega)).trans l1, (h.2 2 (by omega) (by omega)).trans l2, (h.2 3 (by omega) (by omega)).trans l3, (h.2 4 (by omega) (by omega)).trans l4⟩
  · intro h
    have e := h.1
    refine ⟨by rw [c0, c1]; omega, fun i a b => ?_⟩
    rcases (show i = 0 ∨ i = 1 ∨ i = 2 ∨ i = 3 ∨ i = 4 by omega) with rfl | rfl | rfl | rfl | rfl
    · exact h.2.1.trans l0.symm
    · exact h.2.2.1.trans l1.symm
    · exact h.2.2.2.1.trans l2.symm
    · exact h.2.2.2.2.1.trans l3.symm
    · exact h.2.2.2.2.2.trans l4.symm
theorem g_nqm5 {σ : h_S} (hI : h_I σ) : g_nq (σ 102) (σ 103) (σ 104) (σ 98 16) (σ 98 15 - σ 98 16) 5 ↔ g_nm5 (σ 102) (σ 98 16) (σ 98 15 - σ 98 16) := by
  have c0 : σ 103 5 = 32 := tx_103_5 hI
  have c1 : σ 103 (5 + 1) = 36 := tx_103_6 hI
  have l0 : σ 104 (σ 103 5 + 0) = 102 := by rw [c0]; exact tx_104_32 hI
  have l1 : σ 104 (σ 103 5 + 1) = 101 := by rw [c0]; exact tx_104_33 hI
  have l2 : σ 104 (σ 103 5 + 2) = 117 := by rw [c0]; exact tx_104_34 hI
  have l3 : σ 104 (σ 103 5 + 3) = 100 := by rw [c0]; exact tx_104_35 hI
  constructor
  · intro h
    have e := h.1
    rw [c0, c1] at e
    exact ⟨by omega, (h.2 0 (by omega) (by omega)).trans l0, (h.2 1 (by omega) (by omega)).trans l1, (h.2 2 (by omega) (by omega)).trans l2, (h.2 3 (by omega) (by omega)).trans l3⟩
  · intro h
    have e := h.1
    refine ⟨by rw [c0, c1]; omega, fun i a b => ?_⟩
    rcases (show i = 0 ∨ i = 1 ∨ i = 2 ∨ i = 3 by omega) with rfl | rfl | rfl | rfl
    · exact h.2.1.trans l0.symm
    · exact h.2.2.1.trans l1.symm
    · exact h.2.2.2.1.trans l2.symm
    · exact h.2.2.2.2.trans l3.symm
theorem g_nqm6 {σ : h_S} (hI : h_I σ) : g_nq (σ 102) (σ 103) (σ 104) (σ 98 16) (σ 98 15 - σ 98 16) 6 ↔ g_nm6 (σ 102) (σ 98 16) (σ 98 15 - σ 98 16) := by
  have c0 : σ 103 6 = 36 := tx_103_6 hI
  have c1 : σ 103 (6 + 1) = 40 := tx_103_7 hI
  have l0 : σ 104 (σ 103 6 + 0) = 103 := by rw [c0]; exact tx_104_36 hI
  have l1 : σ 104 (σ 103 6 + 1) = 97 := by rw [c0]; exact tx_104_37 hI
  have l2 : σ 104 (σ 103 6 + 2) = 116 := by rw [c0]; exact tx_104_38 hI
  have l3 : σ 104 (σ 103 6 + 3) = 101 := by rw [c0]; exact tx_104_39 hI
  constructor
  · intro h
    have e := h.1
    rw [c0, c1] at e
    exact ⟨by omega, (h.2 0 (by omega) (by omega)).trans l0, (h.2 1 (by omega) (by omega)).trans l1, (h.2 2 (by omega) (by omega)).trans l2, (h.2 3 (by omega) (by omega)).trans l3⟩
  · intro h
    have e := h.1
    refine ⟨by rw [c0, c1]; omega, fun i a b => ?_⟩
    rcases (show i = 0 ∨ i = 1 ∨ i = 2 ∨ i = 3 by omega) with rfl | rfl | rfl | rfl
    · exact h.2.1.trans l0.symm
    · exact h.2.2.1.trans l1.symm
    · exact h.2.2.2.1.trans l2.symm
    · exact h.2.2.2.2.trans l3.symm
theorem g_nqm7 {σ : h_S} (hI : h_I σ) : g_nq (σ 102) (σ 103) (σ 104) (σ 98 16) (σ 98 15 - σ 98 16) 7 ↔ g_nm7 (σ 102) (σ 98 16) (σ 98 15 - σ 98 16) := by
  have c0 : σ 103 7 = 40 := tx_103_7 hI
  have c1 : σ 103 (7 + 1) = 44 := tx_103_8 hI
  have l0 : σ 104 (σ 103 7 + 0) = 112 := by rw [c0]; exact tx_104_40 hI
  have l1 : σ 104 (σ 103 7 + 1) = 108 := by rw [c0]; exact tx_104_41 hI
  have l2 : σ 104 (σ 103 7 + 2) = 97 := by rw [c0]; exact tx_104_42 hI
  have l3 : σ 104 (σ 103 7 + 3) = 110 := by rw [c0]; exact tx_104_43 hI
  constructor
  · intro h
    have e := h.1
    rw [c0, c1] at e
    exact ⟨by omega, (h.2 0 (by omega) (by omega)).trans l0, (h.2 1 (by omega) (by omega)).trans l1, (h.2 2 (by omega) (by omega)).trans l2, (h.2 3 (by omega) (by omega)).trans l3⟩
  · intro h
    have e := h.1
    refine ⟨by rw [c0, c1]; omega, fun i a b => ?_⟩
    rcases (show i = 0 ∨ i = 1 ∨ i = 2 ∨ i = 3 by omega) with rfl | rfl | rfl | rfl
    · exact h.2.1.trans l0.symm
    · exact h.2.2.1.trans l1.symm
    · exact h.2.2.2.1.trans l2.symm
    · exact h.2.2.2.2.trans l3.symm
theorem g_fqs {σ : h_S} (hI : h_I σ) {b : Int} (h : g_fq σ b) : g_fst (σ 102) (σ 98 16) (σ 98 15 - σ 98 16) b := by
  rcases h with ⟨rfl, h⟩ | ⟨b0, b8, hb, h⟩
  · exact Or.inl ⟨rfl, fun x => h 0 (by omega) (by omega) ((g_nqm0 hI).mpr x), fun x => h 1 (by omega) (by omega) ((g_nqm1 hI).mpr x), fun x => h 2 (by omega) (by omega) ((g_nqm2 hI).mpr x), fun x => h 3 (by omega) (by omega) ((g_nqm3 hI).mpr x), fun x => h 4 (by omega) (by omega) ((g_nqm4 hI).mpr x), fun x => h 5 (by omega) (by omega) ((g_nqm5 hI).mpr x), fun x => h 6 (by omega) (by omega) ((g_nqm6 hI).mpr x), fun x => h 7 (by omega) (by omega) ((g_nqm7 hI).mpr x)⟩
  · rcases (show b = 0 ∨ b = 1 ∨ b = 2 ∨ b = 3 ∨ b = 4 ∨ b = 5 ∨ b = 6 ∨ b = 7 by omega) with rfl | rfl | rfl | rfl | rfl | rfl | rfl | rfl
    · exact (Or.inr (Or.inl ⟨rfl, (g_nqm0 hI).mp hb⟩))
    · exact (Or.inr (Or.inr (Or.inl ⟨rfl, fun x => h 0 (by omega) (by omega) ((g_nqm0 hI).mpr x), (g_nqm1 hI).mp hb⟩)))
    · exact (Or.inr (Or.inr (Or.inr (Or.inl ⟨rfl, fun x => h 0 (by omega) (by omega) ((g_nqm0 hI).mpr x), fun x => h 1 (by omega) (by omega) ((g_nqm1 hI).mpr x), (g_nqm2 hI).mp hb⟩))))
    · exact (Or.inr (Or.inr (Or.inr (Or.inr (Or.inl ⟨rfl, fun x => h 0 (by omega) (by omega) ((g_nqm0 hI).mpr x), fun x => h 1 (by omega) (by omega) ((g_nqm1 hI).mpr x), fun x => h 2 (by omega) (by omega) ((g_nqm2 hI).mpr x), (g_nqm3 hI).mp hb⟩)))))
    · exact (Or.inr (Or.inr (Or.inr (Or.inr (Or.inr (Or.inl ⟨rfl, fun x => h 0 (by omega) (by omega) ((g_nqm0 hI).mpr x), fun x => h 1 (by omega) (by omega) ((g_nqm1 hI).mpr x), fun x => h 2 (by omega) (by omega) ((g_nqm2 hI).mpr x), fun x => h 3 (by omega) (by omega) ((g_nqm3 hI).mpr x), (g_nqm4 hI).mp hb⟩))))))
    · exact (Or.inr (Or.inr (Or.inr (Or.inr (Or.inr (Or.inr (Or.inl ⟨rfl, fun x => h 0 (by omega) (by omega) ((g_nqm0 hI).mpr x), fun x => h 1 (by omega) (by omega) ((g_nqm1 hI).mpr x), fun x => h 2 (by omega) (by omega) ((g_nqm2 hI).mpr x), fun x => h 3 (by omega) (by omega) ((g_nqm3 hI).mpr x), fun x => h 4 (by omega) (by omega) ((g_nqm4 hI).mpr x), (g_nqm5 hI).mp hb⟩)))))))
    · exact (Or.inr (Or.inr (Or.inr (Or.inr (Or.inr (Or.inr (Or.inr (Or.inl ⟨rfl, fun x => h 0 (by omega) (by omega) ((g_nqm0 hI).mpr x), fun x => h 1 (by omega) (by omega) ((g_nqm1 hI).mpr x), fun x => h 2 (by omega) (by omega) ((g_nqm2 hI).mpr x), fun x => h 3 (by omega) (by omega) ((g_nqm3 hI).mpr x), fun x => h 4 (by omega) (by omega) ((g_nqm4 hI).mpr x), fun x => h 5 (by omega) (by omega) ((g_nqm5 hI).mpr x), (g_nqm6 hI).mp hb⟩))))))))
    · exact (Or.inr (Or.inr (Or.inr (Or.inr (Or.inr (Or.inr (Or.inr (Or.inr ⟨rfl, fun x => h 0 (by omega) (by omega) ((g_nqm0 hI).mpr x), fun x => h 1 (by omega) (by omega) ((g_nqm1 hI).mpr x), fun x => h 2 (by omega) (by omega) ((g_nqm2 hI).mpr x), fun x => h 3 (by omega) (by omega) ((g_nqm3 hI).mpr x), fun x => h 4 (by omega) (by omega) ((g_nqm4 hI).mpr x), fun x => h 5 (by omega) (by omega) ((g_nqm5 hI).mpr x), fun x => h 6 (by omega) (by omega) ((g_nqm6 hI).mpr x), (g_nqm7 hI).mp hb⟩))))))))
