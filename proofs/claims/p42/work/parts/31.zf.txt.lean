/-! A TEXT THAT IS TAKEN, ONE THAT IS NOT -/
def c_tx (s t : h_S) : Prop := c_at true s 10 (fun j => t 99 (0 + j)) ∧ s 10 8 = t 98 1 ∧ s 10 9 = t 98 2
def c_un (s1 t1 s t : h_S) : Prop := c_eq true s 10 s1 10 ∧ (∀ j, t 99 j = t1 99 j) ∧ t 98 1 = t1 98 1 ∧ t 98 2 = t1 98 2
theorem c_eq.up {fl : Bool} {s s' : h_S} {q x : Nat} {e v : Int} (u : s' = h_up s q e v) (h : (Nat.blt q x || Nat.blt (x + 12) q) = true) : c_eq fl s' x s x := by
  refine c_eq.un (fun p j a c => h_upq u (fun hp => ?_) j)
  subst hp
  rcases Bool.or_eq_true_iff.mp h with g | g
  · have g : p < x := Nat.le_of_ble_eq_true g
    omega
  · have g : x + 12 < p := Nat.le_of_ble_eq_true g
    omega
theorem d_txt {s1 t1 s t : h_S} (h : d_RD s1 t1) (hw : g_wh s1) (hI : h_I s1) (e : c_eq true s 10 s1 66) (eg : ∀ j, 0 ≤ j → j < 44 → t 99 j = t1 101 j) (m1 : t 98 1 = t1 98 5) (m2 : t 98 2 = t1 98 6) : c_tx s t := by
  have hd : c_at true s1 66 (t1 101) := c_of_r h hw (tf_66_9 hI).2
  have b : c_sz s1 66 := ⟨(tf_66_8 hI).2, (tf_66_9 hI).2, (tf_66_10 hI).2, (tf_69_2 hI).2, (tf_72_2 hI).2⟩
  refine ⟨hd.mv b e (c_pg.all (fun j a c => ?_)), ?_, ?_⟩
  · show t 99 (0 + j) = t1 101 j
    rw [Int.zero_add]
    exact eg j a c
  · rw [e.1.1, m1]
    exact h.1.1
  · rw [e.1.2.1, m2]
    exact h.1.2.1
theorem c_at.wk {fl : Bool} {s : h_S} {x : Nat} {g : Int → Int} (h : c_at true s x g) : c_at fl s x g := by
  obtain ⟨z, h1, h2, h3, h4, h5, h6⟩ := h
  exact ⟨z, h1, h2, h3, h4, h5, fun _ => h6 rfl⟩
theorem c_eq.wk {fl : Bool} {s t : h_S} {x y : Nat} (h : c_eq true s x t y) : c_eq fl s x t y := by
  obtain ⟨z, h1, h2, h3, h4, h5, h6, h7, h8, h9⟩ := h
  exact ⟨z, h1, h2, h3, h4, h5, h6, h7, h8, fun _ => h9 rfl⟩
theorem c_eq.same {ns : Nat} {τ τ1 : h_S} {mem : List e_C} (h : h_R (g_Y ns) τ mem) (h1 : h_R (g_Y ns) τ1 mem) : c_eq true τ 10 τ1 10 :=
  ⟨⟨d_same_f (q := 10) (j := 8) h h1 rfl rfl, d_same_f (q := 10) (j := 9) h h1 rfl rfl, d_same_f (q := 10) (j := 10) h h1 rfl rfl, d_same_f (q := 13) (j := 2) h h1 rfl rfl, d_same_f (q := 16) (j := 2) h h1 rfl rfl⟩, fun _ a b => d_same_a (q := 11) (t := 6) h h1 rfl a b, fun _ a b => d_same_a (q := 12) (t := 6) h h1 rfl a b, fun _ a b => d_same_a (q := 14) (t := 3) h h1 rfl a b, fun _ a b => d_same_a (q := 15) (t := 3) h h1 rfl a b, fun _ a b => d_same_a (q := 17) (t := 3) h h1 rfl a b, fun _ a b => d_same_a (q := 18) (t := 3) h h1 rfl a b, fun _ a b => d_same_a (q := 19) (t := 3) h h1 rfl a b, fun _ a b => d_same_a (q := 22) (t := 8) h h1 rfl a b, fun _ => ⟨fun _ a b => d_same_a (q := 20) (t := 3) h h1 rfl a b, fun _ a b => d_same_a (q := 21) (t := 3) h h1 rfl a b⟩⟩
/-- the relation behind a text: what was told, or what was there -/
theorem c_R.told {fl : Bool} {s : h_S} (h : c_tx s s) (i0 : s 62 0 = 0) (i1 : s 62 1 = 0) (n0 : s 110 0 = 0) (n1 : s 110 1 = 0) : c_R fl s := ⟨⟨h.2.1, h.2.2⟩, h.1.wk, ⟨by omega, by omega⟩, fun z => by omega, fun z => by omega⟩
theorem c_R.stay {fl : Bool} {s s' : h_S} {A : List Nat} (h : c_R fl s) (hI : h_I s) (hu : c_un s s s' s') (f : h_F (k_in A) s' s) (hk : (k_cty fl A 36 && k_cty fl A 49) = true) (i0 : s' 62 0 = s 62 0) (i1 : s' 62 1 = s 62 1) (n0 : s' 110 0 = s 110 0) (n1 : s' 110 1 = s 110 1) : c_R fl s' := by
  rw [Bool.and_eq_true] at hk
  obtain ⟨⟨h1, h2⟩, h3, ⟨h4, h5⟩, h6, h7⟩ := h
  obtain ⟨e, ep, q1, q2⟩ := hu
  have b := c_sz_of hI
  refine ⟨⟨by rw [e.1.1, q1]; exact h1, by rw [e.1.2.1, q2]; exact h2⟩, h3.mv b.1 e.wk (c_pg.all (fun j _ _ => ep _)), ⟨by omega, by omega⟩, fun z => ?_, fun z => ?_⟩
  · exact (h6 (by omega)).mv b.2.1 (c_eq.fr f hk.1) (c_pg.all (fun j _ _ => ep _)) q1 q2
  · exact (h7 (by omega)).mv b.2.2 (c_eq.fr f hk.2) (c_pg.all (fun j _ _ => ep _)) q1 q2
theorem c_tx.mv {s s' t : h_S} (h : c_tx s t) (hI : h_I s) (e : c_eq true s' 10 s 10) : c_tx s' t := ⟨h.1.mv (c_sz_of hI).1 e c_pg.rf, by rw [e.1.1]; exact h.2.1, by rw [e.1.2.1]; exact h.2.2⟩
