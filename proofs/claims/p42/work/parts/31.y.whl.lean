def k_pl : List Nat := [64514, 64515, 64517, 65538, 65539, 65540, 65541, 67592, 67593, 67594, 69631, 70655, 70658, 72703, 73727, 73730, 75775, 76799, 77823, 78847, 79871, 80895]
def k_tx : List Nat := [10248, 10249, 10250, 12287, 13311, 13314, 15359, 16383, 16386, 18431, 19455, 20479, 21503, 22527, 23551, 64511, 64514, 64515, 64516, 64517, 65537, 65538, 65539, 65540, 65541, 67592, 67593, 67594, 69631, 70655, 70658, 72703, 73727, 73730, 75775, 76799, 77823, 78847, 79871, 80895, 92162]
def k_tm : List Nat := [100353, 100354, 100357, 100358, 100359, 100360, 100361, 100363, 100364, 100365, 100366, 100367, 100368, 100369, 100370, 100381, 101888, 104447, 113663]
theorem h_upd {s s' : h_S} {q : Nat} {e v j : Int} (u : s' = h_up s q e v) (h : ¬ j = e) : s' q j = s q j := by
  subst u
  unfold h_up
  rw [if_neg (fun x => h x.2)]
theorem d_tape.fr2 {s t s' t' : h_S} (h : d_tape s t) (e1 : s' 64 1 = s 64 1) (e2 : ∀ i, s' 65 i = s 65 i) (e3 : ∀ i, t' 102 i = t 102 i) (e4 : t' 98 11 = t 98 11) : d_tape s' t' := by
  refine ⟨fun i h0 h1 => ?_, ?_⟩
  · rw [e1] at h1
    rw [e2, e3]
    exact h.1 i h0 h1
  · rw [e1, e4]
    exact h.2
def d_RH (s t : h_S) (H : Int) : Prop := r_D (s 66 8) (s 66 9) (s 66 10) (s 69 2) (s 72 2) (s 63 5) (s 67) (s 68) (s 70) (s 71) (s 73) (s 74) (s 75) (s 76) (s 77) (s 78) (t 98 5) (t 98 6) (t 98 7) H (t 98 9) (t 101)
theorem d_mkH {s t : h_S} {np ng na nm nf pt : Int} {k p a b c d r l w q : Int → Int} {mp mg pt' H G : Int} {g : Int → Int} (e1 : s 66 8 = np) (e2 : s 66 9 = ng) (e3 : s 66 10 = na) (e4 : s 69 2 = nm) (e5 : s 72 2 = nf) (e6 : s 63 5 = pt) (f1 : ∀ j, s 67 j = k j) (f2 : ∀ j, s 68 j = p j) (f3 : ∀ j, s 70 j = a j) (f4 : ∀ j, s 71 j = b j) (f5 : ∀ j, s 73 j = c j) (f6 : ∀ j, s 74 j = d j) (f7 : ∀ j, s 75 j = r j) (f8 : ∀ j, s 76 j = l j) (f9 : ∀ j, s 77 j = w j) (f10 : ∀ j, s 78 j = q j) (m1 : t 98 5 = mp) (m2 : t 98 6 = mg) (m3 : t 98 7 = pt') (m5 : t 98 9 = G) (m6 : ∀ j, t 101 j = g j) (h : r_D np ng na nm nf pt k p a b c d r l w q mp mg pt' H G g) : d_RH s t H := by
  unfold d_RH
  rw [e1, e2, e3, e4, e5, e6, funext f1, funext f2, funext f3, funext f4, funext f5, funext f6, funext f7, funext f8, funext f9, funext f10, m1, m2, m3, m5, funext m6]
  exact h
theorem r_g0 {np ng na nm nf pt : Int} {k p a b c d r l w q : Int → Int} {mp mg pt' H G : Int} {g : Int → Int} (h : r_D np ng na nm nf pt k p a b c d r l w q mp mg pt' H G g) (h6 : np ≤ 6) (h0 : 0 ≤ ng) (hg : ng ≤ 2) (hm : nm ≤ 3) (hf : nf ≤ 3) (ha : na ≤ 8) {x e1 : Int} (he : e1 = 26 + ng) : r_D np ng na nm nf pt k p a b c d r l w q mp mg pt' H G (fun j => if j = e1 then x else g j) := by
  obtain ⟨⟨z1, z2, z3, z4, z5, z6, z7⟩, hp, h1, h2, h3, h4, h5, h7⟩ := h
  have e : ∀ i, ¬ i = e1 → (fun j => if j = e1 then x else g j) i = g i := fun i i1 => by
    show (if i = e1 then x else g i) = g i
    rw [if_neg i1]
  refine ⟨⟨z1, z2, ?_, ?_, ?_, z6, z7⟩, r_ps_fr hp h6 (fun i a1 a2 => e i (by omega)), r_pr_fr h1 hm (fun i a1 a2 => e i (by omega)), r_pr_fr h2 hf (fun i a1 a2 => e i (by omega)), ⟨fun j j0 j1 => ?_, fun j j0 j1 j2 => ?_, fun j j0 j1 => ?_⟩, r_pl_fr h4 ha (fun i a1 a2 => e i (by omega)), h5, h7⟩
  · rw [e 43 (by omega)]; exact z3
  · rw [e 18 (by omega)]; exact z4
  · rw [e 25 (by omega)]; exact z5
  · rw [e (26 + j) (by omega), e (29 + j) (by omega)]; exact h3.1 j j0 j1
  · rw [e (29 + j) (by omega)]; exact h3.2.1 j j0 j1 j2
  · rw [e (32 + j) (by omega)]; exact h3.2.2 j j0 j1
theorem r_gatA {np ng na nm nf pt : Int} {k p a b c d r l w q : Int → Int} {mp mg pt' H G : Int} {g : Int → Int} (h : r_D np ng na nm nf pt k p a b c d r l w q mp mg pt' H G g) (h6 : np ≤ 6) (h0 : 0 ≤ ng) (hg : ng ≤ 2) (hm : nm ≤ 3) (hf : nf ≤ 3) (ha : na ≤ 8) {x : Int} (hx : g (26 + mg) = x) : r_D np (ng + 1) na nm nf pt k p a b c d (fun j => if j = ng then x else r j) (fun j => if j = ng then (-4) else l j) (fun j => if j = ng then 0 else w j) q mp (mg + 1) pt' H G (fun j => g j) := by
  have z2 := h.1.2.1
  exact r_gat h h6 h0 hg hm hf ha (Int.le_refl _) (Or.inl rfl) hx (Or.inl ⟨rfl, h.2.2.2.2.1.2.1 mg (by omega) (by omega) (by omega)⟩) (fun i i1 _ => rfl)
theorem r_gatB {np ng na nm nf pt : Int} {k p a b c d r l w q : Int → Int} {mp mg pt' H G : Int} {g : Int → Int} (h : r_D np ng na nm nf pt k p a b c d r l w q mp mg pt' H G g) (h6 : np ≤ 6) (h0 : 0 ≤ ng) (hg : ng ≤ 2) (hm : nm ≤ 3) (hf : nf ≤ 3) (ha : na ≤ 8) {x y y' H' e1 : Int} (hx : g (26 + mg) = x) (hy : y = y') (y0 : 0 ≤ y) (hH : H ≤ H') (hyH : y ≤ H') (hat : H' = H ∨ H' = y) (he : e1 = 29 + mg) : r_D np (ng + 1) na nm nf pt k p a b c d (fun j => if j = ng then x else r j) (fun j => if j = ng then y else l j) (fun j => if j = ng then 0 else w j) q mp (mg + 1) pt' H' G (fun j => if j = e1 then y' + 1 else g j) := by
  subst he
  refine r_gat h h6 h0 hg hm hf ha hH (hat.elim Or.inl (fun e => Or.inr ⟨y0, e⟩)) ?_ (Or.inr ⟨y0, hyH, ?_⟩) (fun i i1 i2 => if_neg i2)
  · rw [if_neg (by omega), hx]
  · rw [if_pos rfl, hy]
theorem g_fst_n {f : Int → Int} {p l r : Int} (h : g_fst f p l r) : r = -4 ∨ 0 ≤ r := by
  unfold g_fst at h
  rcases h with h | h | h | h | h | h | h | h | h <;> (have e := h.1; omega)
theorem h_up26 {s s' : h_S} {e v x j : Int} (u : s' = h_up s 101 e v) (he : j = e) (hv : v = x) : s' 101 j = x := by
  rw [h_upi u j, if_pos he, hv]
/-! WHETHER ALL THAT WAS TOLD OF IS THERE -/
def g_ab (f g : Int → Int) (n p : Int) : Prop := ∀ j, 0 ≤ j → j < n → f j < p ∧ g j < p
def g_wl (f : Int → Int) (n p : Int) : Prop := ∀ j, 0 ≤ j → j < n → f j = -4 ∨ (0 ≤ f j ∧ f j < p)
def g_wq (f : Int → Int) (n p g : Int) : Prop := ∀ j, 0 ≤ j → j < n → f j / 10 < p ∧ f j % 10 < g
theorem g_ab_0 {f g : Int → Int} {p : Int} : g_ab f g 0 p := fun j a b => by omega
theorem g_wl_0 {f : Int → Int} {p : Int} : g_wl f 0 p := fun j a b => by omega
theorem g_wq_0 {f : Int → Int} {p g : Int} : g_wq f 0 p g := fun j a b => by omega
theorem g_ab_s {f g : Int → Int} {n p : Int} (h : g_ab f g n p) (h1 : f n < p) (h2 : g n < p) : g_ab f g (n + 1) p := fun j a b => by
  rcases (show j < n ∨ j = n by omega) with c | c
  · exact h j a c
  · subst c; exact ⟨h1, h2⟩
theorem g_wl_s {f : Int → Int} {n p : Int} (h : g_wl f n p) (h1 : f n = -4 ∨ (0 ≤ f n ∧ f n < p)) : g_wl f (n + 1) p := fun j a b => by
  rcases (show j < n ∨ j = n by omega) with c | c
  · exact h j a c
  · subst c; exact h1
theorem g_wq_s {f : Int → Int} {n p g : Int} (h : g_wq f n p g) (h1 : f n / 10 < p ∧ f n % 10 < g) : g_wq f (n + 1) p g := fun j a b => by
  rcases (show j < n ∨ j = n by omega) with c | c
  · exact h j a c
  · subst c; exact h1
theorem g_ab_m {f g : Int → Int} {n m p : Int} (h : g_ab f g n p) (hm : m ≤ n) : g_ab f g m p := fun j a b => h j a (by omega)
theorem g_wl_m {f : Int → Int} {n m p : Int} (h : g_wl f n p) (hm : m ≤ n) : g_wl f m p := fun j a b => h j a (by omega)
theorem g_wq_m {f : Int → Int} {n m p g : Int} (h : g_wq f n p g) (hm : m ≤ n) : g_wq f m p g := fun j a b => h j a (by omega)
def g_wh (s : h_S) : Prop := g_ab (s 70) (s 71) (s 69 2) (s 66 8) ∧ g_ab (s 73) (s 74) (s 72 2) (s 66 8) ∧ g_wl (s 76) (s 66 9) (s 66 8) ∧ g_wq (s 78) (s 66 10) (s 66 8) (s 66 9)
theorem r_whole {np ng na nm nf pt : Int} {k p a b c d r l w q : Int → Int} {mp mg pt' H G : Int} {g : Int → Int} (h : r_D np ng na nm nf pt k p a b c d r l w q mp mg pt' H G g) (hn : 0 ≤ np) (hg : 0 ≤ ng) : (g_ab a b nm np ∧ g_ab c d nf np ∧ g_wl l ng np ∧ g_wq q na np ng) ↔ (H < mp ∧ G < mg) := by
  obtain ⟨⟨z1, z2, z3, z4, z5, z6, z7⟩, hp, h1, h2, h3, h4, h5, h6⟩ := h
  constructor
  · rintro ⟨x1, x2, x3, x4⟩
    constructor
    · rcases h5 with y | ⟨j, j0, j1, y⟩ | ⟨j, j0, j1, y⟩ | ⟨j, j0, j1, y⟩ | ⟨j, j0, j1, y⟩
      · omega
      · have := x1 j j0 j1; omega
      · have := x2 j j0 j1; omega
      · have := x3 j j0 j1; have := (h3.1 j j0 j1).2.1; omega
      · have := x4 j j0 j1; omega
    · rcases h6 with y | ⟨j, j0, j1, y⟩
      · omega
      · have := x4 j j0 j1; omega
  · rintro ⟨y1, y2⟩
    refine ⟨fun j j0 j1 => ?_, fun j j0 j1 => ?_, fun j j0 j1 => ?_, fun j j0 j1 => ?_⟩
    · obtain ⟨-, -, x1, x2, x3, x4⟩ := h1 j j0 j1; omega
    · obtain ⟨-, -, x1, x2, x3, x4⟩ := h2 j j0 j1; omega
    · obtain ⟨-, x, -⟩ := h3.1 j j0 j1
      rcases x with x | x
      · exact Or.inl x.1
      · exact Or.inr ⟨x.1, by omega⟩
    · obtain ⟨-, x1, x2, x3⟩ := h4 j j0 j1; omega
theorem d_iw {s t : h_S} {b : Int} (h : d_RD s t) (hI : h_I s) (hb : (b = 1 ∧ g_wh s) ∨ (b = 0 ∧ ¬ g_wh s)) : (b = 1 ∧ t 98 8 < t 98 5 ∧ t 98 9 < t 98 6) ∨ (b = 0 ∧ (t 98 5 ≤ t 98 8 ∨ t 98 6 ≤ t 98 9)) := by
  have e := r_whole h (tf_66_8 hI).1 (tf_66_9 hI).1
  rcases hb with ⟨b1, w⟩ | ⟨b0, w⟩
  · exact Or.inl ⟨b1, e.mp w⟩
  · refine Or.inr ⟨b0, ?_⟩
    by_cases h1 : t 98 8 < t 98 5
    · by_cases h2 : t 98 9 < t 98 6
      · exact absurd (e.mpr ⟨h1, h2⟩) w
      · exact Or.inr (by omega)
    · exact Or.inl (by omega)
theorem d_init {s t : h_S} (e1 : s 66 8 = 0) (e2 : s 66 9 = 0) (e3 : s 66 10 = 0) (e4 : s 69 2 = 0) (e5 : s 72 2 = 0) (e6 : s 63 5 = 0) (m1 : t 98 5 = 0) (m2 : t 98 6 = 0) (m3 : t 98 7 = 0) (m4 : t 98 8 = -1) (m5 : t 98 9 = -1) (m6 : ∀ j, 0 ≤ j → j < 44 → t 101 j = 0) : d_RD s t := by
  unfold d_RD
  rw [e1, e2, e3, e4, e5, e6, m1, m2, m3, m4, m5]
  exact ⟨⟨rfl, rfl, (m6 43 (by omega) (by omega)).symm, (m6 18 (by omega) (by omega)).symm, (m6 25 (by omega) (by omega)).symm, rfl, fun _ => rfl⟩, ⟨fun j a b => absurd b (by omega), fun j a b c => m6 _ (by omega) (by omega)⟩, fun j a b => absurd b (by omega), fun j a b => absurd b (by omega), ⟨fun j a b => absurd b (by omega), fun j a b c => m6 _ (by omega) (by omega), fun j a b => m6 _ (by omega) (by omega)⟩, fun j a b => absurd b (by omega), Or.inl rfl, Or.inl rfl⟩
theorem lz_s {s s2 : h_S} {b : Int} (u : s2 = h_up s 101 b 0) (z : ∀ j, 0 ≤ j → j < b → s 101 j = 0) : ∀ j, 0 ≤ j → j < b + 1 → s2 101 j = 0 := fun j a c => by
  rw [h_upi u j]
  by_cases h : j = b
  · rw [if_pos h]
  · rw [if_neg h]; exact z j a (by omega)
theorem lc_s {f : Int → Int} {s s2 : h_S} {b v : Int} (u : s2 = h_up s 99 b v) (hv : v = f b) (z : ∀ j, 0 ≤ j → j < b → s 99 j = f j) : ∀ j, 0 ≤ j → j < b + 1 → s2 99 j = f j := fun j a c => by
  rw [h_upi u j]
  by_cases h : j = b
  · rw [if_pos h, hv, h]
  · rw [if_neg h]; exact z j a (by omega)
set_option maxHeartbeats 100000000 in
theorem n_areBelow69_l (ns : Nat) (σ : h_S) (hI : h_I σ) (x0 : Int32) (a0 : Int) (hx0 : x0.toInt = a0) {Q : Option Value → h_S → Prop} (kk : ∀ (r : Int32) (b : Int) (hb : r.toInt = b), (0 ≤ b ∧ b ≤ 1) → ((b = 1 ∧ g_ab (σ 70) (σ 71) (σ 69 2) a0) ∨ (b = 0 ∧ ¬ g_ab (σ 70) (σ 71) (σ 69 2) a0)) → Q (some (.int r)) σ) : ∀ n : Nat, (∀ (y2 : Int32) (b2 : Int), y2.toInt = b2 → (0 ≤ b2 ∧ b2 ≤ 3) → (g_ab (σ 70) (σ 71) b2 a0) → (3 + 1 - b2) * 1000000 + 1000000000 ≤ (n : Int) → h_T g_P (g_Y ns) 49 2 [(0, .ref 69), (1, .int x0), (2, .int y2)] [] σ Q) := by
  intro n
  induction n with
  | zero => exact by intro  y2 b2 hy2 ry2 ex0 hm; exfalso; omega
  | succ n ih =>
    intro  y2 b2 hy2 ry2 ex0 hm
    refine h_iload_n (pc' := 3) rfl rfl rfl ?_
    refine h_aload_n (pc' := 4) rfl rfl rfl ?_
    refine h_getI (pc' := 7) (v := σ 69 2) rfl rfl rfl rfl rfl rfl (fun z1 hz1 => ?_)
    have tz1 := tf_69_2 hI
    refine h_cge (tg := 38) (pc' := 10) rfl rfl rfl hy2 hz1 (fun c2 => ?_) (fun c2 => ?_)
    · refine h_iconst (pc' := 39) (x := (Int32.ofInt 1)) rfl rfl rfl ?_
      exact h_zret rfl rfl ci_1 (by omega) (kk _ _ ci_1 (by omega) (Or.inl ⟨rfl, g_ab_m ex0 (by omega)⟩))
    · refine h_aload_n (pc' := 11) rfl rfl rfl ?_
      refine h_getR (pc' := 14) rfl rfl rfl rfl rfl ?_
      refine h_iload_n (pc' := 15) rfl rfl rfl ?_
      refine h_iald (pc' := 16) (v := σ 70 b2) rfl rfl rfl hy2 (by omega) (by omega) rfl (fun z3 hz3 => ?_)
      have tz3 := ty_70 hI b2
      refine h_iload_n (pc' := 17) rfl rfl rfl ?_
      refine h_cge (tg := 30) (pc' := 20) rfl rfl rfl hz3 hx0 (fun c4 => ?_) (fun c4 => ?_)
      · refine h_iconst (pc' := 31) (x := (Int32.ofInt 0)) rfl rfl rfl ?_
        exact h_zret rfl rfl ci_0 (by omega) (kk _ _ ci_0 (by omega) (Or.inr ⟨rfl, fun h => by have gw := h b2 (by omega) (by omega); omega⟩))
      · refine h_aload_n (pc' := 21) rfl rfl rfl ?_
        refine h_getR (pc' := 24) rfl rfl rfl rfl rfl ?_
        refine h_iload_n (pc' := 25) rfl rfl rfl ?_
        refine h_iald (pc' := 26) (v := σ 71 b2) rfl rfl rfl hy2 (by omega) (by omega) rfl (fun z5 hz5 => ?_)
        have tz5 := ty_71 hI b2
        refine h_iload_n (pc' := 27) rfl rfl rfl ?_
        refine h_clt (tg := 32) (pc' := 30) rfl rfl rfl hz5 hx0 (fun c6 => ?_) (fun c6 => ?_)
        · refine h_iinc (pc' := 35) (M := fun z7 => [(2, .int z7), (0, .ref 69), (1, .int x0)]) rfl rfl rfl rfl hy2 ci_1 rfl (by omega) (by omega) (fun _ => rfl) (fun z7 hz7 => ?_)
          refine h_goto (pc' := 2) rfl rfl ?_
          exact h_wk [(0, .ref 69), (1, .int x0), (2, .int z7)] ⟨rfl, rfl, rfl, trivial⟩ (ih z7 _ hz7 (by omega) (g_ab_s ex0 (by omega) (by omega)) (by omega))
        · refine h_iconst (pc' := 31) (x := (Int32.ofInt 0)) rfl rfl rfl ?_
          exact h_zret rfl rfl ci_0 (by omega) (kk _ _ ci_0 (by omega) (Or.inr ⟨rfl, fun h => by have gw := h b2 (by omega) (by omega); omega⟩))
set_option maxHeartbeats 100000000 in
theorem n_areBelow69 {ns : Nat} (σ : h_S) (hI : h_I σ) (x0 : Int32) (a0 : Int) (hx0 : x0.toInt = a0) {Q : Option Value → h_S → Prop} (kk : ∀ (r : Int32) (b : Int) (hb : r.toInt = b), (0 ≤ b ∧ b ≤ 1) → ((b = 1 ∧ g_ab (σ 70) (σ 71) (σ 69 2) a0) ∨ (b = 0 ∧ ¬ g_ab (σ 70) (σ 71) (σ 69 2) a0)) → Q (some (.int r)) σ) : h_T g_P (g_Y ns) 49 0 [(0, .ref 69), (1, .int x0)] [] σ Q := by
  refine h_iconst (pc' := 1) (x := (Int32.ofInt 0)) rfl rfl rfl ?_
  refine h_istore_n (pc' := 2) (M := [(2, .int (Int32.ofInt 0)), (0, .ref 69), (1, .int x0)]) rfl rfl rfl rfl ?_
  exact h_wk [(0, .ref 69), (1, .int x0), (2, .int (Int32.ofInt 0))] ⟨rfl, rfl, rfl, trivial⟩ ((n_areBelow69_l ns σ hI x0 a0 hx0 kk 1000000000000) (Int32.ofInt 0) _ ci_0 (by omega) g_ab_0 (by omega))
set_option maxHeartbeats 100000000 in
theorem n_areBelow72_l (ns : Nat) (σ : h_S) (hI : h_I σ) (x0 : Int32) (a0 : Int) (hx0 : x0.toInt = a0) {Q : Option Value → h_S → Prop} (kk : ∀ (r : Int32) (b : Int) (hb : r.toInt = b), (0 ≤ b ∧ b ≤ 1) → ((b = 1 ∧ g_ab (σ 73) (σ 74) (σ 72 2) a0) ∨ (b = 0 ∧ ¬ g_ab (σ 73) (σ 74) (σ 72 2) a0)) → Q (some (.int r)) σ) : ∀ n : Nat, (∀ (y2 : Int32) (b2 : Int), y2.toInt = b2 → (0 ≤ b2 ∧ b2 ≤ 3) → (g_ab (σ 73) (σ 74) b2 a0) → (3 + 1 - b2) * 1000000 + 1000000000 ≤ (n : Int) → h_T g_P (g_Y ns) 49 2 [(0, .ref 72), (1, .int x0), (2, .int y2)] [] σ Q) := by
  intro n
  induction n with
  | zero => exact by intro  y2 b2 hy2 ry2 ex0 hm; exfalso; omega
  | succ n ih =>
    intro  y2 b2 hy2 ry2 ex0 hm
    refine h_iload_n (pc' := 3) rfl rfl rfl ?_
    refine h_aload_n (pc' := 4) rfl rfl rfl ?_
    refine h_getI (pc' := 7) (v := σ 72 2) rfl rfl rfl rfl rfl rfl (fun z1 hz1 => ?_)
    have tz1 := tf_72_2 hI
    refine h_cge (tg := 38) (pc' := 10) rfl rfl rfl hy2 hz1 (fun c2 => ?_) (fun c2 => ?_)
    · refine h_iconst (pc' := 39) (x := (Int32.ofInt 1)) rfl rfl rfl ?_
      exact h_zret rfl rfl ci_1 (by omega) (kk _ _ ci_1 (by omega) (Or.inl ⟨rfl, g_ab_m ex0 (by omega)⟩))
    · refine h_aload_n (pc' := 11) rfl rfl rfl ?_
      refine h_getR (pc' := 14) rfl rfl rfl rfl rfl ?_
      refine h_iload_n (pc' := 15) rfl rfl rfl ?_
      refine h_iald (pc' := 16) (v := σ 73 b2) rfl rfl rfl hy2 (by omega) (by omega) rfl (fun z3 hz3 => ?_)
      have tz3 := ty_73 hI b2
      refine h_iload_n (pc' := 17) rfl rfl rfl ?_
      refine h_cge (tg := 30) (pc' := 20) rfl rfl rfl hz3 hx0 (fun c4 => ?_) (fun c4 => ?_)
      · refine h_iconst (pc' := 31) (x := (Int32.ofInt 0)) rfl rfl rfl ?_
        exact h_zret rfl rfl ci_0 (by omega) (kk _ _ ci_0 (by omega) (Or.inr ⟨rfl, fun h => by have gw := h b2 (by omega) (by omega); omega⟩))
      · refine h_aload_n (pc' := 21) rfl rfl rfl ?_
        refine h_getR (pc' := 24) rfl rfl rfl rfl rfl ?_
        refine h_iload_n (pc' := 25) rfl rfl rfl ?_
        refine h_iald (pc' := 26) (v := σ 74 b2) rfl rfl rfl hy2 (by omega) (by omega) rfl (fun z5 hz5 => ?_)
        have tz5 := ty_74 hI b2
        refine h_iload_n (pc' := 27) rfl rfl rfl ?_
        refine h_clt (tg := 32) (pc' := 30) rfl rfl rfl hz5 hx0 (fun c6 => ?_) (fun c6 => ?_)
        · refine h_iinc (pc' := 35) (M := fun z7 => [(2, .int z7), (0, .ref 72), (1, .int x0)]) rfl rfl rfl rfl hy2 ci_1 rfl (by omega) (by omega) (fun _ => rfl) (fun z7 hz7 => ?_)
          refine h_goto (pc' := 2) rfl rfl ?_
          exact h_wk [(0, .ref 72), (1, .int x0), (2, .int z7)] ⟨rfl, rfl, rfl, trivial⟩ (ih z7 _ hz7 (by omega) (g_ab_s ex0 (by omega) (by omega)) (by omega))
        · refine h_iconst (pc' := 31) (x := (Int32.ofInt 0)) rfl rfl rfl ?_
          exact h_zret rfl rfl ci_0 (by omega) (kk _ _ ci_0 (by omega) (Or.inr ⟨rfl, fun h => by have gw := h b2 (by omega) (by omega); omega⟩))
set_option maxHeartbeats 100000000 in
theorem n_areBelow72 {ns : Nat} (σ : h_S) (hI : h_I σ) (x0 : Int32) (a0 : Int) (hx0 : x0.toInt = a0) {Q : Option Value → h_S → Prop} (kk : ∀ (r : Int32) (b : Int) (hb : r.toInt = b), (0 ≤ b ∧ b ≤ 1) → ((b = 1 ∧ g_ab (σ 73) (σ 74) (σ 72 2) a0) ∨ (b = 0 ∧ ¬ g_ab (σ 73) (σ 74) (σ 72 2) a0)) → Q (some (.int r)) σ) : h_T g_P (g_Y ns) 49 0 [(0, .ref 72), (1, .int x0)] [] σ Q := by
  refine h_iconst (pc' := 1) (x := (Int32.ofInt 0)) rfl rfl rfl ?_
  refine h_istore_n (pc' := 2) (M := [(2, .int (Int32.ofInt 0)), (0, .ref 72), (1, .int x0)]) rfl rfl rfl rfl ?_
  exact h_wk [(0, .ref 72), (1, .int x0), (2, .int (Int32.ofInt 0))] ⟨rfl, rfl, rfl, trivial⟩ ((n_areBelow72_l ns σ hI x0 a0 hx0 kk 1000000000000) (Int32.ofInt 0) _ ci_0 (by omega) g_ab_0 (by omega))
set_option maxHeartbeats 100000000 in
theorem n_isWhole_l (ns : Nat) (σ : h_S) (hI : h_I σ) {Q : Option Value → h_S → Prop} (kk : ∀ (r : Int32) (b : Int) (hb : r.toInt = b), (0 ≤ b ∧ b ≤ 1) → ((b = 1 ∧ g_wh σ) ∨ (b = 0 ∧ ¬ g_wh σ)) → Q (some (.int r)) σ) : ∀ n : Nat, (∀ (y1 : Int32) (b1 : Int), y1.toInt = b1 → (0 ≤ b1 ∧ b1 ≤ 3) → (g_ab (σ 70) (σ 71) (σ 69 2) (σ 66 8)) → (g_ab (σ 73) (σ 74) (σ 72 2) (σ 66 8)) → (g_wl (σ 76) b1 (σ 66 8)) → (3 + 1 - b1) * 1000000 + 2000000000 ≤ (n : Int) → h_T g_P (g_Y ns) 16 32 [(0, .ref 66), (1, .int y1)] [] σ Q) ∧ (∀ (y1 : Int32) (b1 : Int), y1.toInt = b1 → (0 ≤ b1 ∧ b1 ≤ 8) → (g_ab (σ 70) (σ 71) (σ 69 2) (σ 66 8)) → (g_ab (σ 73) (σ 74) (σ 72 2) (σ 66 8)) → (g_wl (σ 76) (σ 66 9) (σ 66 8)) → (g_wq (σ 78) b1 (σ 66 8) (σ 66 9)) → (8 + 1 - b1) * 1000000 + 1000000000 ≤ (n : Int) → h_T g_P (g_Y ns) 16 74 [(0, .ref 66), (1, .int y1)] [] σ Q) := by
  intro n
  induction n with
  | zero => exact ⟨by intro  y1 b1 hy1 ry1 ex0 ex1 ex2 hm; exfalso; omega, by intro  y1 b1 hy1 ry1 ex0 ex1 ex2 ex3 hm; exfalso; omega⟩
  | succ n ih =>
    refine ⟨?_, ?_⟩
    · intro  y1 b1 hy1 ry1 ex0 ex1 ex2 hm
      refine h_iload_n (pc' := 33) rfl rfl rfl ?_
      refine h_aload_n (pc' := 34) rfl rfl rfl ?_
      refine h_getI (pc' := 37) (v := σ 66 9) rfl rfl rfl rfl rfl rfl (fun z1 hz1 => ?_)
      have tz1 := tf_66_9 hI
      refine h_cge (tg := 72) (pc' := 40) rfl rfl rfl hy1 hz1 (fun c2 => ?_) (fun c2 => ?_)
      · refine h_iconst (pc' := 73) (x := (Int32.ofInt 0)) rfl rfl rfl ?_
        refine h_istore_n (pc' := 74) (M := [(1, .int (Int32.ofInt 0)), (0, .ref 66)]) rfl rfl rfl rfl ?_
        exact h_wk [(0, .ref 66), (1, .int (Int32.ofInt 0))] ⟨rfl, rfl, trivial⟩ (ih.2 (Int32.ofInt 0) _ ci_0 (by omega) ex0 ex1 (g_wl_m ex2 (by omega)) g_wq_0 (by omega))
      · refine h_aload_n (pc' := 41) rfl rfl rfl ?_
        refine h_getR (pc' := 44) rfl rfl rfl rfl rfl ?_
        refine h_iload_n (pc' := 45) rfl rfl rfl ?_
        refine h_iald (pc' := 46) (v := σ 76 b1) rfl rfl rfl hy1 (by omega) (by omega) rfl (fun z3 hz3 => ?_)
        have tz3 := ty_76 hI b1
        refine h_bipush (pc' := 48) (x := (Int32.ofInt (-4))) rfl rfl cb_m4 ?_
        refine h_ceq (tg := 66) (pc' := 51) rfl rfl rfl hz3 ci_m4 (fun c4 => ?_) (fun c4 => ?_)
        · refine h_iinc (pc' := 69) (M := fun z5 => [(1, .int z5), (0, .ref 66)]) rfl rfl rfl rfl hy1 ci_1 rfl (by omega) (by omega) (fun _ => rfl) (fun z5 hz5 => ?_)
          refine h_goto (pc' := 32) rfl rfl ?_
          exact h_wk [(0, .ref 66), (1, .int z5)] ⟨rfl, rfl, trivial⟩ (ih.1 z5 _ hz5 (by omega) ex0 ex1 (g_wl_s ex2 (by omega)) (by omega))
        · refine h_aload_n (pc' := 52) rfl rfl rfl ?_
          refine h_aload_n (pc' := 53) rfl rfl rfl ?_
          refine h_getR (pc' := 56) rfl rfl rfl rfl rfl ?_
          refine h_iload_n (pc' := 57) rfl rfl rfl ?_
          refine h_iald (pc' := 58) (v := σ 76 b1) rfl rfl rfl hy1 (by omega) (by omega) rfl (fun z6 hz6 => ?_)
          have tz6 := ty_76 hI b1
          refine h_call (sp := false) (pc' := 61) (M := [(0, .ref 66), (1, .int z6)]) rfl rfl rfl rfl rfl rfl rfl rfl ?_
          refine h_iload_n (pc' := 1) rfl rfl rfl ?_
          refine h_zlt (tg := 16) (pc' := 4) rfl rfl rfl hz6 (fun c7 => ?_) (fun c7 => ?_)
          · refine h_iconst (pc' := 17) (x := (Int32.ofInt 0)) rfl rfl rfl ?_
            refine h_zret rfl rfl ci_0 (by omega) (h_Kv ?_)
            refine h_zne (tg := 66) (pc' := 64) rfl rfl rfl ci_0 (fun c8 => absurd c8 (by omega)) (fun c8 => ?_)
            refine h_iconst (pc' := 65) (x := (Int32.ofInt 0)) rfl rfl rfl ?_
            exact h_zret rfl rfl ci_0 (by omega) (kk _ _ ci_0 (by omega) (Or.inr ⟨rfl, fun h => by have gw := h.2.2.1 b1 (by omega) (by omega); omega⟩))
          · refine h_iload_n (pc' := 5) rfl rfl rfl ?_
            refine h_aload_n (pc' := 6) rfl rfl rfl ?_
            refine h_getI (pc' := 9) (v := σ 66 8) rfl rfl rfl rfl rfl rfl (fun z9 hz9 => ?_)
            have tz9 := tf_66_8 hI
            refine h_cge (tg := 16) (pc' := 12) rfl rfl rfl hz6 hz9 (fun c10 => ?_) (fun c10 => ?_)
            · refine h_iconst (pc' := 17) (x := (Int32.ofInt 0)) rfl rfl rfl ?_
              refine h_zret rfl rfl ci_0 (by omega) (h_Kv ?_)
              refine h_zne (tg := 66) (pc' := 64) rfl rfl rfl ci_0 (fun c11 => absurd c11 (by omega)) (fun c11 => ?_)
              refine h_iconst (pc' := 65) (x := (Int32.ofInt 0)) rfl rfl rfl ?_
              exact h_zret rfl rfl ci_0 (by omega) (kk _ _ ci_0 (by omega) (Or.inr ⟨rfl, fun h => by have gw := h.2.2.1 b1 (by omega) (by omega); omega⟩))
            · refine h_iconst (pc' := 13) (x := (Int32.ofInt 1)) rfl rfl rfl ?_
              refine h_goto (pc' := 17) rfl rfl ?_
              refine h_zret rfl rfl ci_1 (by omega) (h_Kv ?_)
              refine h_zne (tg := 66) (pc' := 64) rfl rfl rfl ci_1 (fun c12 => ?_) (fun c12 => absurd c12 (by omega))
              refine h_iinc (pc' := 69) (M := fun z13 => [(1, .int z13), (0, .ref 66)]) rfl rfl rfl rfl hy1 ci_1 rfl (by omega) (by omega) (fun _ => rfl) (fun z13 hz13 => ?_)
              refine h_goto (pc' := 32) rfl rfl ?_
              exact h_wk [(0, .ref 66), (1, .int z13)] ⟨rfl, rfl, trivial⟩ (ih.1 z13 _ hz13 (by omega) ex0 ex1 (g_wl_s ex2 (by omega)) (by omega))
    · intro  y1 b1 hy1 ry1 ex0 ex1 ex2 ex3 hm
      refine h_iload_n (pc' := 75) rfl rfl rfl ?_
      refine h_aload_n (pc' := 76) rfl rfl rfl ?_
      refine h_getI (pc' := 79) (v := σ 66 10) rfl rfl rfl rfl rfl rfl (fun z1 hz1 => ?_)
      have tz1 := tf_66_10 hI
      refine h_cge (tg := 122) (pc' := 82) rfl rfl rfl hy1 hz1 (fun c2 => ?_) (fun c2 => ?_)
      · refine h_iconst (pc' := 123) (x := (Int32.ofInt 1)) rfl rfl rfl ?_
        exact h_zret rfl rfl ci_1 (by omega) (kk _ _ ci_1 (by omega) (Or.inl ⟨rfl, ex0, ex1, ex2, g_wq_m ex3 (by omega)⟩))
      · refine h_aload_n (pc' := 83) rfl rfl rfl ?_
        refine h_aload_n (pc' := 84) rfl rfl rfl ?_
        refine h_getR (pc' := 87) rfl rfl rfl rfl rfl ?_
        refine h_iload_n (pc' := 88) rfl rfl rfl ?_
        refine h_iald (pc' := 89) (v := σ 78 b1) rfl rfl rfl hy1 (by omega) (by omega) rfl (fun z3 hz3 => ?_)
        have tz3 := ty_78 hI b1
        refine h_bipush (pc' := 91) (x := (Int32.ofInt 10)) rfl rfl cb_10 ?_
        refine h_idiv (pc' := 92) rfl rfl hz3 ci_10 (by omega) (by omega) (fun z4 hz4 => ?_)
        refine h_call (sp := false) (pc' := 95) (M := [(0, .ref 66), (1, .int z4)]) rfl rfl rfl rfl rfl rfl rfl rfl ?_
        refine h_iload_n (pc' := 1) rfl rfl rfl ?_
        refine h_zlt (tg := 16) (pc' := 4) rfl rfl rfl hz4 (fun c5 => absurd c5 (by omega)) (fun c5 => ?_)
        refine h_iload_n (pc' := 5) rfl rfl rfl ?_
        refine h_aload_n (pc' := 6) rfl rfl rfl ?_
        refine h_getI (pc' := 9) (v := σ 66 8) rfl rfl rfl rfl rfl rfl (fun z6 hz6 => ?_)
        have tz6 := tf_66_8 hI
        refine h_cge (tg := 16) (pc' := 12) rfl rfl rfl hz4 hz6 (fun c7 => ?_) (fun c7 => ?_)
        · refine h_iconst (pc' := 17) (x := (Int32.ofInt 0)) rfl rfl rfl ?_
          refine h_zret rfl rfl ci_0 (by omega) (h_Kv ?_)
          refine h_zeq (tg := 114) (pc' := 98) rfl rfl rfl ci_0 (fun c8 => ?_) (fun c8 => absurd c8 (by omega))
          refine h_iconst (pc' := 115) (x := (Int32.ofInt 0)) rfl rfl rfl ?_
          exact h_zret rfl rfl ci_0 (by omega) (kk _ _ ci_0 (by omega) (Or.inr ⟨rfl, fun h => by have gw := h.2.2.2 b1 (by omega) (by omega); omega⟩))
        · refine h_iconst (pc' := 13) (x := (Int32.ofInt 1)) rfl rfl rfl ?_
          refine h_goto (pc' := 17) rfl rfl ?_
          refine h_zret rfl rfl ci_1 (by omega) (h_Kv ?_)
          refine h_zeq (tg := 114) (pc' := 98) rfl rfl rfl ci_1 (fun c9 => absurd c9 (by omega)) (fun c9 => ?_)
          refine h_aload_n (pc' := 99) rfl rfl rfl ?_
          refine h_aload_n (pc' := 100) rfl rfl rfl ?_
          refine h_getR (pc' := 103) rfl rfl rfl rfl rfl ?_
          refine h_iload_n (pc' := 104) rfl rfl rfl ?_
          refine h_iald (pc' := 105) (v := σ 78 b1) rfl rfl rfl hy1 (by omega) (by omega) rfl (fun z10 hz10 => ?_)
          have tz10 := ty_78 hI b1
          refine h_bipush (pc' := 107) (x := (Int32.ofInt 10)) rfl rfl cb_10 ?_
          refine h_irem (pc' := 108) rfl rfl hz10 ci_10 (by omega) (by omega) (fun z11 hz11 => ?_)
          refine h_call (sp := false) (pc' := 111) (M := [(0, .ref 66), (1, .int z11)]) rfl rfl rfl rfl rfl rfl rfl rfl ?_
          refine h_iload_n (pc' := 1) rfl rfl rfl ?_
          refine h_zlt (tg := 16) (pc' := 4) rfl rfl rfl hz11 (fun c12 => absurd c12 (by omega)) (fun c12 => ?_)
          refine h_iload_n (pc' := 5) rfl rfl rfl ?_
          refine h_aload_n (pc' := 6) rfl rfl rfl ?_
          refine h_getI (pc' := 9) (v := σ 66 9) rfl rfl rfl rfl rfl rfl (fun z13 hz13 => ?_)
          have tz13 := tf_66_9 hI
          refine h_cge (tg := 16) (pc' := 12) rfl rfl rfl hz11 hz13 (fun c14 => ?_) (fun c14 => ?_)
          · refine h_iconst (pc' := 17) (x := (Int32.ofInt 0)) rfl rfl rfl ?_
            refine h_zret rfl rfl ci_0 (by omega) (h_Kv ?_)
            refine h_zne (tg := 116) (pc' := 114) rfl rfl rfl ci_0 (fun c15 => absurd c15 (by omega)) (fun c15 => ?_)
            refine h_iconst (pc' := 115) (x := (Int32.ofInt 0)) rfl rfl rfl ?_
            exact h_zret rfl rfl ci_0 (by omega) (kk _ _ ci_0 (by omega) (Or.inr ⟨rfl, fun h => by have gw := h.2.2.2 b1 (by omega) (by omega); omega⟩))
          · refine h_iconst (pc' := 13) (x := (Int32.ofInt 1)) rfl rfl rfl ?_
            refine h_goto (pc' := 17) rfl rfl ?_
            refine h_zret rfl rfl ci_1 (by omega) (h_Kv ?_)
            refine h_zne (tg := 116) (pc' := 114) rfl rfl rfl ci_1 (fun c16 => ?_) (fun c16 => absurd c16 (by omega))
            refine h_iinc (pc' := 119) (M := fun z17 => [(1, .int z17), (0, .ref 66)]) rfl rfl rfl rfl hy1 ci_1 rfl (by omega) (by omega) (fun _ => rfl) (fun z17 hz17 => ?_)
            refine h_goto (pc' := 74) rfl rfl ?_
            exact h_wk [(0, .ref 66), (1, .int z17)] ⟨rfl, rfl, trivial⟩ (ih.2 z17 _ hz17 (by omega) ex0 ex1 ex2 (g_wq_s ex3 (by omega)) (by omega))
set_option maxHeartbeats 100000000 in
theorem n_isWhole {ns : Nat} (σ : h_S) (hI : h_I σ) {Q : Option Value → h_S → Prop} (kk : ∀ (r : Int32) (b : Int) (hb : r.toInt = b), (0 ≤ b ∧ b ≤ 1) → ((b = 1 ∧ g_wh σ) ∨ (b = 0 ∧ ¬ g_wh σ)) → Q (some (.int r)) σ) : h_T g_P (g_Y ns) 16 0 [(0, .ref 66)] [] σ Q := by
  refine h_aload_n (pc' := 1) rfl rfl rfl ?_
  refine h_getR (pc' := 4) rfl rfl rfl rfl rfl ?_
  refine h_aload_n (pc' := 5) rfl rfl rfl ?_
  refine h_getI (pc' := 8) (v := σ 66 8) rfl rfl rfl rfl rfl rfl (fun z1 hz1 => ?_)
  have tz1 := tf_66_8 hI
  refine h_call (sp := false) (pc' := 11) (M := [(0, .ref 69), (1, .int z1)]) rfl rfl rfl rfl rfl rfl rfl rfl ?_
  refine n_areBelow69 _ hI z1 _ hz1 (fun r2 br2 hr2 tr2 ps3_0 => h_Kv ?_)
  refine h_zeq (tg := 28) (pc' := 14) rfl rfl rfl hr2 (fun c4 => ?_) (fun c4 => ?_)
  · refine h_iconst (pc' := 29) (x := (Int32.ofInt 0)) rfl rfl rfl ?_
    exact h_zret rfl rfl ci_0 (by omega) (kk _ _ ci_0 (by omega) (Or.inr ⟨rfl, fun h => absurd h.1 (gn_0 ps3_0 (by omega))⟩))
  · refine h_aload_n (pc' := 15) rfl rfl rfl ?_
    refine h_getR (pc' := 18) rfl rfl rfl rfl rfl ?_
    refine h_aload_n (pc' := 19) rfl rfl rfl ?_
    refine h_getI (pc' := 22) (v := σ 66 8) rfl rfl rfl rfl rfl rfl (fun z5 hz5 => ?_)
    have tz5 := tf_66_8 hI
    refine h_call (sp := false) (pc' := 25) (M := [(0, .ref 72), (1, .int z5)]) rfl rfl rfl rfl rfl rfl rfl rfl ?_
    refine n_areBelow72 _ hI z5 _ hz5 (fun r6 br6 hr6 tr6 ps7_0 => h_Kv ?_)
    refine h_zne (tg := 30) (pc' := 28) rfl rfl rfl hr6 (fun c8 => ?_) (fun c8 => ?_)
    · refine h_iconst (pc' := 31) (x := (Int32.ofInt 0)) rfl rfl rfl ?_
      refine h_istore_n (pc' := 32) (M := [(1, .int (Int32.ofInt 0)), (0, .ref 66)]) rfl rfl rfl rfl ?_
      exact h_wk [(0, .ref 66), (1, .int (Int32.ofInt 0))] ⟨rfl, rfl, trivial⟩ ((n_isWhole_l ns σ hI  kk 1000000000000).1 (Int32.ofInt 0) _ ci_0 (by omega) (gn_1 ps3_0 (by omega)) (gn_1 ps7_0 (by omega)) g_wl_0 (by omega))
    · refine h_iconst (pc' := 29) (x := (Int32.ofInt 0)) rfl rfl rfl ?_
      exact h_zret rfl rfl ci_0 (by omega) (kk _ _ ci_0 (by omega) (Or.inr ⟨rfl, fun h => absurd h.2.1 (gn_0 ps7_0 (by omega))⟩))
def k_rp : List Nat := [104447]
theorem lm_z_l {ns : Nat} {σ : h_S} (hI : h_I σ) (y1 : Int32) {Q : Option Value → h_S → Prop} (kk : ∀ τ, h_I τ → h_F (k_in k_rp) τ σ → (∀ j, 0 ≤ j → j < 44 → τ 101 j = 0) → h_T g_P (g_Y ns) 155 58 [(0, .ref 98), (1, .int y1)] [] τ Q) : ∀ (n : Nat) (s0 : h_S), h_I s0 → h_F (k_in k_rp) s0 σ → ∀ (y2 : Int32) (b2 : Int), y2.toInt = b2 → (0 ≤ b2 ∧ b2 ≤ 44) → (∀ j, 0 ≤ j → j < b2 → s0 101 j = 0) → 45 - b2 ≤ (n : Int) → h_T g_P (g_Y ns) 155 39 [(0, .ref 98), (1, .int y1), (2, .int y2)] [] s0 Q := by
  intro n
  induction n with
  | zero => intro s0 I0 F0_ y2 b2 hy2 r2 z hm; exfalso; omega
  | succ n ih =>
    intro s0 I0 F0_ y2 b2 hy2 r2 z hm
    refine h_iload_n (pc' := 40) rfl rfl rfl ?_
    refine h_bipush (pc' := 42) (x := (Int32.ofInt 44)) rfl rfl cb_44 ?_
    refine h_cge (tg := 58) (pc' := 45) rfl rfl rfl hy2 ci_44 (fun c1 => ?_) (fun c1 => ?_)
    · exact h_wk [(0, .ref 98), (1, .int y1)] ⟨rfl, rfl, trivial⟩ (kk _ I0 F0_ (fun j a b => z j a (by omega)))
    · refine h_aload_n (pc' := 46) rfl rfl rfl ?_
      refine h_getR (pc' := 49) rfl rfl rfl rfl rfl ?_
      refine h_iload_n (pc' := 50) rfl rfl rfl ?_
      refine h_iconst (pc' := 51) (x := (Int32.ofInt 0)) rfl rfl rfl ?_
      refine h_iast (pc' := 52) rfl rfl rfl rfl hy2 (by omega) (by omega) ci_0 (h_fgt (E := fun s => s 98 13 = s0 98 13 ∧ s = h_up s0 101 b2 0) _ (iz_101 I0) (F0_.up rfl) ⟨rfl, rfl⟩ (fun s2 Is2 Fs2 (es2 : s2 98 13 = s0 98 13 ∧ s2 = h_up s0 101 b2 0) => ?_))
      refine h_iinc (pc' := 55) (M := fun z3 => [(2, .int z3), (0, .ref 98), (1, .int y1)]) rfl rfl rfl rfl hy2 ci_1 rfl (by omega) (by omega) (fun _ => rfl) (fun z3 hz3 => ?_)
      refine h_goto (pc' := 39) rfl rfl ?_
      exact h_wk [(0, .ref 98), (1, .int y1), (2, .int z3)] ⟨rfl, rfl, rfl, trivial⟩ (ih _ Is2 Fs2 _ _ hz3 (by omega) (lz_s es2.2 z) (by omega))
theorem lm_z {ns : Nat} (σ : h_S) (hI : h_I σ) (y1 : Int32) {Q : Option Value → h_S → Prop} (kk : ∀ τ, h_I τ → h_F (k_in k_rp) τ σ → (∀ j, 0 ≤ j → j < 44 → τ 101 j = 0) → h_T g_P (g_Y ns) 155 58 [(0, .ref 98), (1, .int y1)] [] τ Q) : h_T g_P (g_Y ns) 155 39 [(2, .int (Int32.ofInt 0)), (0, .ref 98), (1, .int y1)] [] σ Q :=
  h_wk [(0, .ref 98), (1, .int y1), (2, .int (Int32.ofInt 0))] ⟨rfl, rfl, rfl, trivial⟩ (lm_z_l hI y1 kk 45 σ hI h_F.rf (Int32.ofInt 0) 0 ci_0 (by omega) (fun j a b => absurd b (by omega)) (by omega))
def k_p0 : List Nat := [101888]
theorem lm_cp_l {ns : Nat} {σ : h_S} (hI : h_I σ) (y1 : Int32) {Q : Option Value → h_S → Prop} (kk : ∀ τ, h_I τ → h_F (k_in k_p0) τ σ → (∀ j, 0 ≤ j → j < 44 → τ 99 j = σ 101 j) → h_T g_P (g_Y ns) 155 175 [(0, .ref 98), (1, .int y1)] [] τ Q) : ∀ (n : Nat) (s0 : h_S), h_I s0 → h_F (k_in k_p0) s0 σ → ∀ (y2 : Int32) (b2 : Int), y2.toInt = b2 → (0 ≤ b2 ∧ b2 ≤ 44) → (∀ j, 0 ≤ j → j < b2 → s0 99 j = σ 101 j) → 45 - b2 ≤ (n : Int) → h_T g_P (g_Y ns) 155 151 [(0, .ref 98), (1, .int y1), (2, .int y2)] [] s0 Q := by
  intro n
  induction n with
  | zero => intro s0 I0 F0_ y2 b2 hy2 r2 z hm; exfalso; omega
  | succ n ih =>
    intro s0 I0 F0_ y2 b2 hy2 r2 z hm
    refine h_iload_n (pc' := 152) rfl rfl rfl ?_
    refine h_bipush (pc' := 154) (x := (Int32.ofInt 44)) rfl rfl cb_44 ?_
    refine h_cge (tg := 175) (pc' := 157) rfl rfl rfl hy2 ci_44 (fun c1 => ?_) (fun c1 => ?_)
    · exact h_wk [(0, .ref 98), (1, .int y1)] ⟨rfl, rfl, trivial⟩ (kk _ I0 F0_ (fun j a b => z j a (by omega)))
    · refine h_aload_n (pc' := 158) rfl rfl rfl ?_
      refine h_getR (pc' := 161) rfl rfl rfl rfl rfl ?_
      refine h_iload_n (pc' := 162) rfl rfl rfl ?_
      refine h_aload_n (pc' := 163) rfl rfl rfl ?_
      refine h_getR (pc' := 166) rfl rfl rfl rfl rfl ?_
      refine h_iload_n (pc' := 167) rfl rfl rfl ?_
      refine h_iald (pc' := 168) (v := σ 101 b2) rfl rfl rfl hy2 (by omega) (by omega) (F0_ 101 _ rfl) (fun z2 hz2 => ?_)
      have tz2 := h_rng z2
      rw [hz2] at tz2
      refine h_iast (pc' := 169) rfl rfl rfl rfl hy2 (by omega) (by omega) hz2 (h_fgt (E := fun s => s 98 13 = s0 98 13 ∧ s = h_up s0 99 b2 (σ 101 b2)) _ (im_99 (i := b2) I0 (by omega) (hI 101 b2)) (F0_.up (k_ipg (p := 0) rfl rfl (by omega))) ⟨rfl, rfl⟩ (fun s3 Is3 Fs3 (es3 : s3 98 13 = s0 98 13 ∧ s3 = h_up s0 99 b2 (σ 101 b2)) => ?_))
      refine h_iinc (pc' := 172) (M := fun z4 => [(2, .int z4), (0, .ref 98), (1, .int y1)]) rfl rfl rfl rfl hy2 ci_1 rfl (by omega) (by omega) (fun _ => rfl) (fun z4 hz4 => ?_)
      refine h_goto (pc' := 151) rfl rfl ?_
      exact h_wk [(0, .ref 98), (1, .int y1), (2, .int z4)] ⟨rfl, rfl, rfl, trivial⟩ (ih _ Is3 Fs3 _ _ hz4 (by omega) (lc_s es3.2 rfl z) (by omega))
theorem lm_cp {ns : Nat} (σ : h_S) (hI : h_I σ) (y1 : Int32) {Q : Option Value → h_S → Prop} (kk : ∀ τ, h_I τ → h_F (k_in k_p0) τ σ → (∀ j, 0 ≤ j → j < 44 → τ 99 j = σ 101 j) → h_T g_P (g_Y ns) 155 175 [(0, .ref 98), (1, .int y1)] [] τ Q) : h_T g_P (g_Y ns) 155 151 [(2, .int (Int32.ofInt 0)), (0, .ref 98), (1, .int y1)] [] σ Q :=
  h_wk [(0, .ref 98), (1, .int y1), (2, .int (Int32.ofInt 0))] ⟨rfl, rfl, rfl, trivial⟩ (lm_cp_l hI y1 kk 45 σ hI h_F.rf (Int32.ofInt 0) 0 ci_0 (by omega) (fun j a b => absurd b (by omega)) (by omega))
