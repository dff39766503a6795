/-! EACH STEP OF A PICTURE IS A STEP OF WHAT IT IS OF -/
section AT
variable {ρ : Nat → Int32} {E : a_E}
theorem a_t_iload (hE : a_ok ρ E) {pc : Nat} {lv : List (Nat × a_V)} {lw : List (Nat × Value)} {st : List a_V} {st' : List Value} {mem : List a_C} {mem' : List e_C} (i : Nat)  {F : a_F} (hl : a_l2 (a_rq ρ) lv lw) (hs : a_l2 (a_rv ρ) st st') (hm : a_l2 (a_rc ρ) mem mem') (h : a_iload E pc lv st mem i = some F) : ∃ G, e_iload pc lw st' mem' i = some G ∧ a_rF ρ F G := by
  unfold a_iload at h
  split at h
  · next a ha =>
    obtain ⟨v, h1, h2⟩ := a_get_ok hl ha
    unfold a_psh at h
    split at h
    · next b hb =>
      cases h
      obtain ⟨x, rfl, h3⟩ := a_nm_ok hE h2 hb
      unfold e_iload
      rw [h1]
      exact ⟨_, rfl, rfl, hl, ⟨h3, hs⟩, hm⟩
    · cases h
  · cases h
theorem a_t_lload (hE : a_ok ρ E) {pc : Nat} {lv : List (Nat × a_V)} {lw : List (Nat × Value)} {st : List a_V} {st' : List Value} {mem : List a_C} {mem' : List e_C} (i : Nat)  {F : a_F} (hl : a_l2 (a_rq ρ) lv lw) (hs : a_l2 (a_rv ρ) st st') (hm : a_l2 (a_rc ρ) mem mem') (h : a_lload E pc lv st mem i = some F) : ∃ G, e_lload pc lw st' mem' i = some G ∧ a_rF ρ F G := by
  unfold a_lload at h
  split at h
  · next a ha =>
    obtain ⟨v, h1, h2⟩ := a_get_ok hl ha
    split at h
    · next p hp =>
      cases h
      obtain ⟨x, rfl, -⟩ := a_lg_ok hE h2 hp
      unfold e_lload
      rw [h1]
      exact ⟨_, rfl, rfl, hl, ⟨h2, hs⟩, hm⟩
    · cases h
  · cases h
theorem a_t_aload (hE : a_ok ρ E) {pc : Nat} {lv : List (Nat × a_V)} {lw : List (Nat × Value)} {st : List a_V} {st' : List Value} {mem : List a_C} {mem' : List e_C} (i : Nat)  {F : a_F} (hl : a_l2 (a_rq ρ) lv lw) (hs : a_l2 (a_rv ρ) st st') (hm : a_l2 (a_rc ρ) mem mem') (h : a_aload  pc lv st mem i = some F) : ∃ G, e_aload pc lw st' mem' i = some G ∧ a_rF ρ F G := by
  unfold a_aload at h
  split at h
  · next q ha =>
    cases h
    obtain ⟨v, h1, h2⟩ := a_get_ok hl ha
    have h3 : v = .ref q := h2
    subst h3
    unfold e_aload
    rw [h1]
    exact ⟨_, rfl, rfl, hl, ⟨rfl, hs⟩, hm⟩
  · cases h
theorem a_t_istore (hE : a_ok ρ E) {pc : Nat} {lv : List (Nat × a_V)} {lw : List (Nat × Value)} {st : List a_V} {st' : List Value} {mem : List a_C} {mem' : List e_C} (n i : Nat)  {F : a_F} (hl : a_l2 (a_rq ρ) lv lw) (hs : a_l2 (a_rv ρ) st st') (hm : a_l2 (a_rc ρ) mem mem') (h : a_istore E pc lv st mem n i = some F) : ∃ G, e_istore pc lw st' mem' n i = some G ∧ a_rF ρ F G := by
  unfold a_istore at h
  split at h
  · next a r =>
    obtain ⟨v, t, rfl, h1, h2⟩ := a_l2_c hs
    split at h
    · next p hp =>
      obtain ⟨x, rfl, -⟩ := a_iv_ok hE h1 hp
      cases hn : Nat.blt i n with
      | false => rw [hn] at h; cases h
      | true =>
        rw [hn] at h
        cases h
        unfold e_istore
        dsimp only
        rw [hn]
        exact ⟨_, rfl, rfl, a_put1_ok hl h1, h2, hm⟩
    · cases h
  · cases h
theorem a_t_lstore (hE : a_ok ρ E) {pc : Nat} {lv : List (Nat × a_V)} {lw : List (Nat × Value)} {st : List a_V} {st' : List Value} {mem : List a_C} {mem' : List e_C} (n i : Nat)  {F : a_F} (hl : a_l2 (a_rq ρ) lv lw) (hs : a_l2 (a_rv ρ) st st') (hm : a_l2 (a_rc ρ) mem mem') (h : a_lstore E pc lv st mem n i = some F) : ∃ G, e_lstore pc lw st' mem' n i = some G ∧ a_rF ρ F G := by
  unfold a_lstore at h
  split at h
  · next a r =>
    obtain ⟨v, t, rfl, h1, h2⟩ := a_l2_c hs
    split at h
    · next p hp =>
      obtain ⟨x, rfl, -⟩ := a_lg_ok hE h1 hp
      cases hn : Nat.blt (i + 1) n with
      | false => rw [hn] at h; cases h
      | true =>
        rw [hn] at h
        cases h
        unfold e_lstore
        dsimp only
        rw [hn]
        exact ⟨_, rfl, rfl, a_put2_ok hl h1, h2, hm⟩
    · cases h
  · cases h
theorem a_t_astore (hE : a_ok ρ E) {pc : Nat} {lv : List (Nat × a_V)} {lw : List (Nat × Value)} {st : List a_V} {st' : List Value} {mem : List a_C} {mem' : List e_C} (n i : Nat)  {F : a_F} (hl : a_l2 (a_rq ρ) lv lw) (hs : a_l2 (a_rv ρ) st st') (hm : a_l2 (a_rc ρ) mem mem') (h : a_astore  pc lv st mem n i = some F) : ∃ G, e_astore pc lw st' mem' n i = some G ∧ a_rF ρ F G := by
  unfold a_astore at h
  split at h
  · next q r =>
    obtain ⟨v, t, rfl, h1, h2⟩ := a_l2_c hs
    have h3 : v = .ref q := h1
    subst h3
    cases hn : Nat.blt i n with
    | false => rw [hn] at h; cases h
    | true =>
      rw [hn] at h
      cases h
      unfold e_astore
      dsimp only
      rw [hn]
      exact ⟨_, rfl, rfl, a_put1_ok hl h1, h2, hm⟩
  · cases h
theorem a_t_iinc (hE : a_ok ρ E) {pc : Nat} {lv : List (Nat × a_V)} {lw : List (Nat × Value)} {st : List a_V} {st' : List Value} {mem : List a_C} {mem' : List e_C} (n i : Nat) (d : Int)  {F : a_F} (hl : a_l2 (a_rq ρ) lv lw) (hs : a_l2 (a_rv ρ) st st') (hm : a_l2 (a_rc ρ) mem mem') (h : a_iinc  pc lv st mem n i d = some F) : ∃ G, e_iinc pc lw st' mem' n i d = some G ∧ a_rF ρ F G := by
  unfold a_iinc at h
  split at h
  · next x ha =>
    obtain ⟨v, h1, h2⟩ := a_get_ok hl ha
    have h3 : v = .int x := h2
    subst h3
    cases hn : Nat.blt i n with
    | false => rw [hn] at h; cases h
    | true =>
      rw [hn] at h
      cases h
      unfold e_iinc
      rw [h1]
      dsimp only
      rw [hn]
      exact ⟨_, rfl, rfl, a_put1_ok hl (show a_rv ρ (.inl (.int (x + Int32.ofInt d))) (.int (x + Int32.ofInt d)) from rfl), hs, hm⟩
  · cases h
theorem a_t_i1 (hE : a_ok ρ E) {pc : Nat} {lv : List (Nat × a_V)} {lw : List (Nat × Value)} {st : List a_V} {st' : List Value} {mem : List a_C} {mem' : List e_C} (g : Int32 → Int32)  {F : a_F} (hl : a_l2 (a_rq ρ) lv lw) (hs : a_l2 (a_rv ρ) st st') (hm : a_l2 (a_rc ρ) mem mem') (h : a_i1 E pc lv st mem g = some F) : ∃ G, e_i1 pc lw st' mem' g = some G ∧ a_rF ρ F G := by
  unfold a_i1 at h
  split at h
  · obtain ⟨v, t, rfl, h1, h2⟩ := a_l2_c hs
    cases h1
    cases h
    exact ⟨_, rfl, rfl, hl, ⟨rfl, h2⟩, hm⟩
  · obtain ⟨v, t, rfl, h1, h2⟩ := a_l2_c hs
    split at h
    · next p hp =>
      obtain ⟨x, rfl, -⟩ := a_iv_ok hE h1 hp
      cases h
      exact ⟨_, rfl, rfl, hl, ⟨a_full_ok _, h2⟩, hm⟩
    · cases h
  · cases h
theorem a_t_i2l (hE : a_ok ρ E) {pc : Nat} {lv : List (Nat × a_V)} {lw : List (Nat × Value)} {st : List a_V} {st' : List Value} {mem : List a_C} {mem' : List e_C}   {F : a_F} (hl : a_l2 (a_rq ρ) lv lw) (hs : a_l2 (a_rv ρ) st st') (hm : a_l2 (a_rc ρ) mem mem') (h : a_i2l  pc lv st mem  = some F) : ∃ G, e_i2l pc lw st' mem'  = some G ∧ a_rF ρ F G := by
  unfold a_i2l at h
  split at h
  · obtain ⟨v, t, rfl, h1, h2⟩ := a_l2_c hs
    cases h1
    cases h
    exact ⟨_, rfl, rfl, hl, ⟨rfl, h2⟩, hm⟩
  · obtain ⟨v, t, rfl, h1, h2⟩ := a_l2_c hs
    cases h1
    cases h
    exact ⟨_, rfl, rfl, hl, ⟨rfl, h2⟩, hm⟩
  · next id z r =>
    obtain ⟨v, t, rfl, h1, h2⟩ := a_l2_c hs
    obtain ⟨lo, hi⟩ := z
    obtain ⟨x, rfl, h3⟩ := h1
    cases h
    exact ⟨_, rfl, rfl, hl, ⟨⟨x, rfl, h3⟩, h2⟩, hm⟩
  · cases h
theorem a_t_i2 (hE : a_ok ρ E) {pc : Nat} {lv : List (Nat × a_V)} {lw : List (Nat × Value)} {st : List a_V} {st' : List Value} {mem : List a_C} {mem' : List e_C} (g : Int32 → Int32 → Int32)  {F : a_F} (hl : a_l2 (a_rq ρ) lv lw) (hs : a_l2 (a_rv ρ) st st') (hm : a_l2 (a_rc ρ) mem mem') (h : a_i2 E pc lv st mem g = some F) : ∃ G, e_i2 pc lw st' mem' g = some G ∧ a_rF ρ F G := by
  unfold a_i2 at h
  split at h
  · obtain ⟨v, t, rfl, h1, h2⟩ := a_l2_c hs
    obtain ⟨w, t, rfl, h3, h4⟩ := a_l2_c h2
    cases h1
    cases h3
    cases h
    exact ⟨_, rfl, rfl, hl, ⟨rfl, h4⟩, hm⟩
  · obtain ⟨v, t, rfl, h1, h2⟩ := a_l2_c hs
    obtain ⟨w, t, rfl, h3, h4⟩ := a_l2_c h2
    split at h
    · next p q hp hq =>
      obtain ⟨x, rfl, -⟩ := a_iv_ok hE h3 hp
      obtain ⟨y, rfl, -⟩ := a_iv_ok hE h1 hq
      cases h
      exact ⟨_, rfl, rfl, hl, ⟨a_full_ok _, h4⟩, hm⟩
    · cases h
  · cases h
theorem a_t_i2z (hE : a_ok ρ E) {pc : Nat} {lv : List (Nat × a_V)} {lw : List (Nat × Value)} {st : List a_V} {st' : List Value} {mem : List a_C} {mem' : List e_C} (g : Int32 → Int32 → Int32) {gg : Int × Int → Int32 → a_V} (hg : ∀ (x y : Int32) (p : Int × Int), p.1 ≤ x.toInt → x.toInt ≤ p.2 → a_rv ρ (gg p y) (.int (g x y))) {F : a_F} (hl : a_l2 (a_rq ρ) lv lw) (hs : a_l2 (a_rv ρ) st st') (hm : a_l2 (a_rc ρ) mem mem') (h : a_i2z E pc lv st mem g gg = some F) : ∃ G, e_i2z pc lw st' mem' g = some G ∧ a_rF ρ F G := by
  unfold a_i2z at h
  simp only [Bool.cond_eq_ite, decide_eq_true_eq] at h
  split at h
  · next y x r =>
    obtain ⟨v, t, rfl, h1, h2⟩ := a_l2_c hs
    obtain ⟨w, t, rfl, h3, h4⟩ := a_l2_c h2
    cases h1
    cases h3
    split at h
    · cases h
    · next hy =>
      cases h
      unfold e_i2z
      dsimp only
      rw [decide_eq_false hy]
      exact ⟨_, rfl, rfl, hl, ⟨rfl, h4⟩, hm⟩
  · next y a r _ =>
    obtain ⟨v, t, rfl, h1, h2⟩ := a_l2_c hs
    obtain ⟨w, t, rfl, h3, h4⟩ := a_l2_c h2
    cases h1
    split at h
    · next p hp =>
      obtain ⟨x, rfl, h5, h6⟩ := a_iv_ok hE h3 hp
      split at h
      · cases h
      · next hy =>
        cases h
        unfold e_i2z
        dsimp only
        rw [decide_eq_false hy]
        exact ⟨_, rfl, rfl, hl, ⟨hg x y p h5 h6, h4⟩, hm⟩
    · cases h
  · cases h
theorem a_t_l2o (hE : a_ok ρ E) {pc : Nat} {lv : List (Nat × a_V)} {lw : List (Nat × Value)} {st : List a_V} {st' : List Value} {mem : List a_C} {mem' : List e_C} (g : Int64 → Int64 → Int64)  {F : a_F} (hl : a_l2 (a_rq ρ) lv lw) (hs : a_l2 (a_rv ρ) st st') (hm : a_l2 (a_rc ρ) mem mem') (h : a_l2o  pc lv st mem g = some F) : ∃ G, e_l2 pc lw st' mem' g = some G ∧ a_rF ρ F G := by
  unfold a_l2o at h
  split at h
  · obtain ⟨v, t, rfl, h1, h2⟩ := a_l2_c hs
    obtain ⟨w, t, rfl, h3, h4⟩ := a_l2_c h2
    cases h1
    cases h3
    cases h
    exact ⟨_, rfl, rfl, hl, ⟨rfl, h4⟩, hm⟩
  · cases h
theorem a_t_l2z (hE : a_ok ρ E) {pc : Nat} {lv : List (Nat × a_V)} {lw : List (Nat × Value)} {st : List a_V} {st' : List Value} {mem : List a_C} {mem' : List e_C} (g : Int64 → Int64 → Int64)  {F : a_F} (hl : a_l2 (a_rq ρ) lv lw) (hs : a_l2 (a_rv ρ) st st') (hm : a_l2 (a_rc ρ) mem mem') (h : a_l2z  pc lv st mem g = some F) : ∃ G, e_l2z pc lw st' mem' g = some G ∧ a_rF ρ F G := by
  unfold a_l2z at h
  simp only [Bool.cond_eq_ite, decide_eq_true_eq] at h
  split at h
  · obtain ⟨v, t, rfl, h1, h2⟩ := a_l2_c hs
    obtain ⟨w, t, rfl, h3, h4⟩ := a_l2_c h2
    cases h1
    cases h3
    split at h
    · cases h
    · next hy =>
      cases h
      unfold e_l2z
      dsimp only
      rw [decide_eq_false hy]
      exact ⟨_, rfl, rfl, hl, ⟨rfl, h4⟩, hm⟩
  · cases h
theorem a_t_lcmp (hE : a_ok ρ E) {pc : Nat} {lv : List (Nat × a_V)} {lw : List (Nat × Value)} {st : List a_V} {st' : List Value} {mem : List a_C} {mem' : List e_C}   {F : a_F} (hl : a_l2 (a_rq ρ) lv lw) (hs : a_l2 (a_rv ρ) st st') (hm : a_l2 (a_rc ρ) mem mem') (h : a_lcmp E pc lv st mem  = some F) : ∃ G, e_lcmp pc lw st' mem'  = some G ∧ a_rF ρ F G := by
  unfold a_lcmp at h
  split at h
  · obtain ⟨v, t, rfl, h1, h2⟩ := a_l2_c hs
    obtain ⟨w, t, rfl, h3, h4⟩ := a_l2_c h2
    split at h
    · next p q hp hq =>
      obtain ⟨x, rfl, h5, h6⟩ := a_lg_ok hE h3 hp
      obtain ⟨y, rfl, h7, h8⟩ := a_lg_ok hE h1 hq
      unfold a_psh at h
      split at h
      · next b hb =>
        cases h
        obtain ⟨z, hz, h9⟩ := a_nm_ok hE (a_cmp_ok h5 h6 h7 h8) hb
        cases hz
        exact ⟨_, rfl, rfl, hl, ⟨h9, h4⟩, hm⟩
      · cases h
    · cases h
  · cases h
theorem a_t_dup (hE : a_ok ρ E) {pc : Nat} {lv : List (Nat × a_V)} {lw : List (Nat × Value)} {st : List a_V} {st' : List Value} {mem : List a_C} {mem' : List e_C}   {F : a_F} (hl : a_l2 (a_rq ρ) lv lw) (hs : a_l2 (a_rv ρ) st st') (hm : a_l2 (a_rc ρ) mem mem') (h : a_dup  pc lv st mem  = some F) : ∃ G, e_dup pc lw st' mem'  = some G ∧ a_rF ρ F G := by
  unfold a_dup at h
  simp only [Bool.cond_eq_ite] at h
  split at h
  · obtain ⟨v, t, rfl, h1, h2⟩ := a_l2_c hs
    split at h
    · next hc =>
      cases h
      unfold e_dup
      simp only [Bool.cond_eq_ite]
      rw [if_pos (by rw [a_cat_ok h1]; exact hc)]
      exact ⟨_, rfl, rfl, hl, ⟨h1, h1, h2⟩, hm⟩
    · cases h
  · cases h
theorem a_t_pop (hE : a_ok ρ E) {pc : Nat} {lv : List (Nat × a_V)} {lw : List (Nat × Value)} {st : List a_V} {st' : List Value} {mem : List a_C} {mem' : List e_C}   {F : a_F} (hl : a_l2 (a_rq ρ) lv lw) (hs : a_l2 (a_rv ρ) st st') (hm : a_l2 (a_rc ρ) mem mem') (h : a_pop  pc lv st mem  = some F) : ∃ G, e_pop pc lw st' mem'  = some G ∧ a_rF ρ F G := by
  unfold a_pop at h
  simp only [Bool.cond_eq_ite] at h
  split at h
  · obtain ⟨v, t, rfl, h1, h2⟩ := a_l2_c hs
    split at h
    · next hc =>
      cases h
      unfold e_pop
      simp only [Bool.cond_eq_ite]
      rw [if_pos (by rw [a_cat_ok h1]; exact hc)]
      exact ⟨_, rfl, rfl, hl, h2, hm⟩
    · cases h
  · cases h
theorem a_t_dup2 (hE : a_ok ρ E) {pc : Nat} {lv : List (Nat × a_V)} {lw : List (Nat × Value)} {st : List a_V} {st' : List Value} {mem : List a_C} {mem' : List e_C}   {F : a_F} (hl : a_l2 (a_rq ρ) lv lw) (hs : a_l2 (a_rv ρ) st st') (hm : a_l2 (a_rc ρ) mem mem') (h : a_dup2  pc lv st mem  = some F) : ∃ G, e_dup2 pc lw st' mem'  = some G ∧ a_rF ρ F G := by
  unfold a_dup2 at h
  simp only [Bool.cond_eq_ite] at h
  split at h
  · obtain ⟨v, t, rfl, h1, h2⟩ := a_l2_c hs
    obtain ⟨w, t, rfl, h3, h4⟩ := a_l2_c h2
    split at h
    · next hc =>
      cases h
      unfold e_dup2
      simp only [Bool.cond_eq_ite]
      rw [if_pos (by rw [a_cat_ok h1, a_cat_ok h3]; exact hc)]
      exact ⟨_, rfl, rfl, hl, ⟨h1, h3, h1, h3, h4⟩, hm⟩
    · cases h
  · cases h
theorem a_t_alen (hE : a_ok ρ E) {pc : Nat} {lv : List (Nat × a_V)} {lw : List (Nat × Value)} {st : List a_V} {st' : List Value} {mem : List a_C} {mem' : List e_C}   {F : a_F} (hl : a_l2 (a_rq ρ) lv lw) (hs : a_l2 (a_rv ρ) st st') (hm : a_l2 (a_rc ρ) mem mem') (h : a_alen  pc lv st mem  = some F) : ∃ G, e_alen pc lw st' mem'  = some G ∧ a_rF ρ F G := by
  unfold a_alen at h
  split at h
  · next q r =>
    obtain ⟨v, t, rfl, h1, h2⟩ := a_l2_c hs
    cases h1
    split at h
    · next a ha =>
      obtain ⟨b, h3, h4, h5⟩ := a_arr hm ha
      cases h
      unfold e_alen
      simp only [h3]
      exact ⟨_, rfl, rfl, hl, ⟨by rw [a_l2_len h5]; rfl, h2⟩, hm⟩
    · cases h
  · cases h
theorem a_t_ald (hE : a_ok ρ E) {pc : Nat} {lv : List (Nat × a_V)} {lw : List (Nat × Value)} {st : List a_V} {st' : List Value} {mem : List a_C} {mem' : List e_C} (z : Bool)  {F : a_F} (hl : a_l2 (a_rq ρ) lv lw) (hs : a_l2 (a_rv ρ) st st') (hm : a_l2 (a_rc ρ) mem mem') (h : a_ald  pc lv st mem z = some F) : ∃ G, e_ald pc lw st' mem' z = some G ∧ a_rF ρ F G := by
  unfold a_ald at h
  simp only [Bool.cond_eq_ite] at h
  split at h
  · next j q r =>
    obtain ⟨v, t, rfl, h1, h2⟩ := a_l2_c hs
    obtain ⟨w, t, rfl, h3, h4⟩ := a_l2_c h2
    cases h1
    cases h3
    split at h
    · next a ha =>
      obtain ⟨b, h5, h6, h7⟩ := a_arr hm ha
      split at h
      · next hc =>
        split at h
        · next x hx =>
          obtain ⟨y, h8, h9⟩ := a_l2_get h7 hx
          cases h
          unfold e_ald
          simp only [Bool.cond_eq_ite, h5]
          rw [if_pos (by rw [← h6]; exact hc), h8]
          exact ⟨_, rfl, rfl, hl, ⟨h9, h4⟩, hm⟩
        · cases h
      · cases h
    · cases h
  · cases h
theorem a_t_ast (hE : a_ok ρ E) {pc : Nat} {lv : List (Nat × a_V)} {lw : List (Nat × Value)} {st : List a_V} {st' : List Value} {mem : List a_C} {mem' : List e_C} (ro : Nat) (z : Bool)  {F : a_F} (hl : a_l2 (a_rq ρ) lv lw) (hs : a_l2 (a_rv ρ) st st') (hm : a_l2 (a_rc ρ) mem mem') (h : a_ast E pc lv st mem ro z = some F) : ∃ G, e_ast pc lw st' mem' ro z = some G ∧ a_rF ρ F G := by
  unfold a_ast at h
  simp only [Bool.cond_eq_ite] at h
  split at h
  · next x j q r =>
    obtain ⟨v, t, rfl, h1, h2⟩ := a_l2_c hs
    obtain ⟨w, t, rfl, h3, h4⟩ := a_l2_c h2
    obtain ⟨u, t, rfl, h5, h6⟩ := a_l2_c h4
    cases h3
    cases h5
    split at h
    · next a ha =>
      obtain ⟨b, h7, h8, h9⟩ := a_arr hm ha
      split at h
      · next hc =>
        cases h
        simp only [Bool.and_eq_true] at hc
        obtain ⟨c1, c2, c3, c4, c5⟩ := hc
        have hfit := a_fit_ok hE h1 c5
        have hi : ∃ x0 : Int32, v = .int x0 := by
          cases z <;> (cases v <;> first | exact ⟨_, rfl⟩ | cases hfit)
        obtain ⟨x0, rfl⟩ := hi
        unfold e_ast
        simp only [Bool.cond_eq_ite, h7]
        rw [if_pos (by
          simp only [Bool.and_eq_true]
          refine ⟨by rw [← h8]; exact c1, c2, by rw [a_l2_len h9]; exact c3, c4, ?_⟩
          cases z with
          | false => rfl
          | true => exact hfit)]
        exact ⟨_, rfl, rfl, hl, h6, a_l2_set (show a_rc ρ (.inl (a.1, a.2.set j.toNatClampNeg x)) (.inl (b.1, b.2.set j.toNatClampNeg x0)) from ⟨h8, a_l2_set (R := a_rx ρ) h1 h9⟩) hm⟩
      · cases h
    · cases h
  · cases h
theorem a_t_getf (hE : a_ok ρ E) {pc : Nat} {lv : List (Nat × a_V)} {lw : List (Nat × Value)} {st : List a_V} {st' : List Value} {mem : List a_C} {mem' : List e_C} (x : Option (Nat × Nat × FieldType × Bool))  {F : a_F} (hl : a_l2 (a_rq ρ) lv lw) (hs : a_l2 (a_rv ρ) st st') (hm : a_l2 (a_rc ρ) mem mem') (h : a_getf  pc lv st mem x = some F) : ∃ G, e_getf pc lw st' mem' x = some G ∧ a_rF ρ F G := by
  unfold a_getf at h
  simp only [Bool.cond_eq_ite] at h
  split at h
  · next f q r =>
    obtain ⟨v, t, rfl, h1, h2⟩ := a_l2_c hs
    cases h1
    split at h
    · next a ha =>
      obtain ⟨b, h5, h6, h7⟩ := a_obj hm ha
      split at h
      · next hc =>
        split at h
        · next x hx =>
          obtain ⟨y, h8, h9⟩ := a_l2_get h7 hx
          cases h
          unfold e_getf
          simp only [Bool.cond_eq_ite, h5]
          rw [if_pos (by rw [← h6]; exact hc), h8]
          exact ⟨_, rfl, rfl, hl, ⟨h9, h2⟩, hm⟩
        · cases h
      · cases h
    · cases h
  · cases h
theorem a_t_putf (hE : a_ok ρ E) {pc : Nat} {lv : List (Nat × a_V)} {lw : List (Nat × Value)} {st : List a_V} {st' : List Value} {mem : List a_C} {mem' : List e_C} (ro : Nat) (x : Option (Nat × Nat × FieldType × Bool))  {F : a_F} (hl : a_l2 (a_rq ρ) lv lw) (hs : a_l2 (a_rv ρ) st st') (hm : a_l2 (a_rc ρ) mem mem') (h : a_putf E pc lv st mem ro x = some F) : ∃ G, e_putf pc lw st' mem' ro x = some G ∧ a_rF ρ F G := by
  unfold a_putf at h
  simp only [Bool.cond_eq_ite] at h
  split at h
  · next f x q r =>
    obtain ⟨v, t, rfl, h1, h2⟩ := a_l2_c hs
    obtain ⟨w, t, rfl, h3, h4⟩ := a_l2_c h2
    cases h3
    split at h
    · next a ha =>
      obtain ⟨b, h5, h6, h7⟩ := a_obj hm ha
      split at h
      · next hc =>
        cases h
        simp only [Bool.and_eq_true] at hc
        obtain ⟨c1, c2, c3, c4, c5⟩ := hc
        unfold e_putf
        simp only [Bool.cond_eq_ite, h5]
        rw [if_pos (by
          simp only [Bool.and_eq_true]
          exact ⟨by rw [← h6]; exact c1, by rw [a_l2_len h7]; exact c2, a_fit_ok hE h1 c3, c4, c5⟩)]
        exact ⟨_, rfl, rfl, hl, h4, a_l2_set (show a_rc ρ (.inr (a.1, a.2.set f.2.1 x)) (.inr (b.1, b.2.set f.2.1 v)) from ⟨h6, a_l2_set h1 h7⟩) hm⟩
      · cases h
    · cases h
  · cases h
theorem a_l2_inl : ∀ l : List Value, a_l2 (a_rv ρ) (l.map .inl) l
  | [] => trivial
  | v :: l => ⟨rfl, a_l2_inl l⟩
theorem a_t_newo (hE : a_ok ρ E) {pc : Nat} {lv : List (Nat × a_V)} {lw : List (Nat × Value)} {st : List a_V} {st' : List Value} {mem : List a_C} {mem' : List e_C} (x : Option (Nat × List Value))  {F : a_F} (hl : a_l2 (a_rq ρ) lv lw) (hs : a_l2 (a_rv ρ) st st') (hm : a_l2 (a_rc ρ) mem mem') (h : a_newo  pc lv st mem x = some F) : ∃ G, e_newo pc lw st' mem' x = some G ∧ a_rF ρ F G := by
  unfold a_newo at h
  split at h
  · next o =>
    cases h
    exact ⟨_, rfl, rfl, hl, ⟨by rw [a_l2_len hm]; rfl, hs⟩, a_l2_app hm ⟨⟨rfl, a_l2_inl o.2⟩, trivial⟩⟩
  · cases h
theorem a_t_newa (hE : a_ok ρ E) {pc : Nat} {lv : List (Nat × a_V)} {lw : List (Nat × Value)} {st : List a_V} {st' : List Value} {mem : List a_C} {mem' : List e_C} (z : Bool)  {F : a_F} (hl : a_l2 (a_rq ρ) lv lw) (hs : a_l2 (a_rv ρ) st st') (hm : a_l2 (a_rc ρ) mem mem') (h : a_newa  pc lv st mem z = some F) : ∃ G, e_newa pc lw st' mem' z = some G ∧ a_rF ρ F G := by
  unfold a_newa at h
  simp only [Bool.cond_eq_ite] at h
  split at h
  · next n r =>
    obtain ⟨v, t, rfl, h1, h2⟩ := a_l2_c hs
    cases h1
    split at h
    · next hc =>
      cases h
      unfold e_newa
      simp only [Bool.cond_eq_ite]
      rw [if_pos hc]
      exact ⟨_, rfl, rfl, hl, ⟨by rw [a_l2_len hm]; rfl, h2⟩, a_l2_app hm ⟨⟨rfl, a_l2_rep (R := a_rx ρ) (show a_rx ρ (.inl (.int 0)) 0 from rfl) _⟩, trivial⟩⟩
    · cases h
  · cases h
theorem a_t_ldi (hE : a_ok ρ E) {pc : Nat} {lv : List (Nat × a_V)} {lw : List (Nat × Value)} {st : List a_V} {st' : List Value} {mem : List a_C} {mem' : List e_C} (x : Option Value)  {F : a_F} (hl : a_l2 (a_rq ρ) lv lw) (hs : a_l2 (a_rv ρ) st st') (hm : a_l2 (a_rc ρ) mem mem') (h : a_ldi  pc lv st mem x = some F) : ∃ G, e_ldi pc lw st' mem' x = some G ∧ a_rF ρ F G := by
  unfold a_ldi at h
  split at h
  · cases h
    exact ⟨_, rfl, rfl, hl, ⟨rfl, hs⟩, hm⟩
  · cases h
theorem a_t_ldl (hE : a_ok ρ E) {pc : Nat} {lv : List (Nat × a_V)} {lw : List (Nat × Value)} {st : List a_V} {st' : List Value} {mem : List a_C} {mem' : List e_C} (x : Option Value)  {F : a_F} (hl : a_l2 (a_rq ρ) lv lw) (hs : a_l2 (a_rv ρ) st st') (hm : a_l2 (a_rc ρ) mem mem') (h : a_ldl  pc lv st mem x = some F) : ∃ G, e_ldl pc lw st' mem' x = some G ∧ a_rF ρ F G := by
  unfold a_ldl at h
  split at h
  · cases h
    exact ⟨_, rfl, rfl, hl, ⟨rfl, hs⟩, hm⟩
  · cases h
theorem a_t_jmp (hE : a_ok ρ E) {pc : Nat} {lv : List (Nat × a_V)} {lw : List (Nat × Value)} {st : List a_V} {st' : List Value} {mem : List a_C} {mem' : List e_C} (o : Int)  {F : a_F} (hl : a_l2 (a_rq ρ) lv lw) (hs : a_l2 (a_rv ρ) st st') (hm : a_l2 (a_rc ρ) mem mem') (h : a_jmp  pc lv st mem o = some F) : ∃ G, e_jmp pc o lw st' mem' = some G ∧ a_rF ρ F G := by
  unfold a_jmp at h
  split at h
  · next t ht =>
    cases h
    unfold e_jmp
    rw [ht]
    exact ⟨_, rfl, rfl, hl, hs, hm⟩
  · cases h
theorem a_low_ok {st : List a_V} {st' : List Value} (hs : a_l2 (a_rv ρ) st st') (h : a_low st = true) : e_low st' = true := by
  unfold e_low
  rw [a_cats_ok hs]
  exact h
theorem a_t_acp (hE : a_ok ρ E) {pc : Nat} {lv : List (Nat × a_V)} {lw : List (Nat × Value)} {st : List a_V} {st' : List Value} {mem : List a_C} {mem' : List e_C} (ro : Nat)  {F : a_F} (hl : a_l2 (a_rq ρ) lv lw) (hs : a_l2 (a_rv ρ) st st') (hm : a_l2 (a_rc ρ) mem mem') (h : a_acp  pc lv st mem ro = some F) : ∃ G, e_acp pc lw st' mem' ro = some G ∧ a_rF ρ F G := by
  unfold a_acp at h
  simp only [Bool.cond_eq_ite] at h
  split at h
  · next n dp q1 sp q0 r =>
    obtain ⟨v1, t, rfl, h1, hs1⟩ := a_l2_c hs
    obtain ⟨v2, t, rfl, h2, hs2⟩ := a_l2_c hs1
    obtain ⟨v3, t, rfl, h3, hs3⟩ := a_l2_c hs2
    obtain ⟨v4, t, rfl, h4, hs4⟩ := a_l2_c hs3
    obtain ⟨v5, t, rfl, h5, hs5⟩ := a_l2_c hs4
    cases h1; cases h2; cases h3; cases h4; cases h5
    split at h
    · next a b ha hb =>
      obtain ⟨a', x1, x2, x3⟩ := a_arr hm ha
      obtain ⟨b', y1, y2, y3⟩ := a_arr hm hb
      split at h
      · next hc =>
        cases h
        simp only [Bool.and_eq_true] at hc
        obtain ⟨c1, c2, c3, c4, c5, c6, c7, c8, c9⟩ := hc
        unfold e_acp
        simp only [Bool.cond_eq_ite, x1, y1]
        rw [if_pos (by
          simp only [Bool.and_eq_true]
          exact ⟨by rw [← x2]; exact c1, by rw [← y2]; exact c2, c3, c4, c5, by rw [a_l2_len x3]; exact c6, by rw [a_l2_len y3]; exact c7, c8, a_low_ok hs5 c9⟩)]
        exact ⟨_, rfl, rfl, hl, hs5, a_l2_set (show a_rc ρ (.inl (b.1, e_wr ((a.2.drop sp.toNatClampNeg).take n.toNatClampNeg) dp.toNatClampNeg b.2)) (.inl (b'.1, e_wr ((a'.2.drop sp.toNatClampNeg).take n.toNatClampNeg) dp.toNatClampNeg b'.2)) from ⟨y2, a_l2_wr (a_l2_take _ (a_l2_drop _ x3)) y3⟩) hm⟩
      · cases h
    · cases h
  · cases h
theorem a_t_min (hE : a_ok ρ E) {pc : Nat} {lv : List (Nat × a_V)} {lw : List (Nat × Value)} {st : List a_V} {st' : List Value} {mem : List a_C} {mem' : List e_C}   {F : a_F} (hl : a_l2 (a_rq ρ) lv lw) (hs : a_l2 (a_rv ρ) st st') (hm : a_l2 (a_rc ρ) mem mem') (h : a_min  pc lv st mem  = some F) : ∃ G, e_min pc lw st' mem'  = some G ∧ a_rF ρ F G := by
  unfold a_min at h
  simp only [Bool.cond_eq_ite] at h
  split at h
  · obtain ⟨v, t, rfl, h1, h2⟩ := a_l2_c hs
    obtain ⟨w, t, rfl, h3, h4⟩ := a_l2_c h2
    cases h1
    cases h3
    split at h
    · next hc =>
      cases h
      unfold e_min
      simp only [Bool.cond_eq_ite]
      rw [if_pos (a_low_ok h4 hc)]
      exact ⟨_, rfl, rfl, hl, ⟨rfl, h4⟩, hm⟩
    · cases h
  · cases h
end AT
