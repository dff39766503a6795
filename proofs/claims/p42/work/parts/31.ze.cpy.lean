/-! COPIES, EXACTLY -/
theorem h_upv {s s' : h_S} {q : Nat} {e v : Int} (u : s' = h_up s q e v) : s' q e = v := by
  subst u
  unfold h_up
  rw [if_pos ⟨rfl, rfl⟩]
theorem h_cpi {s s' : h_S} {q0 q1 n : Nat} (u : s' = h_cp s q0 q1 n) {j : Int} (a : 0 ≤ j) (b : j < n) : s' q1 j = s q0 j := by
  subst u
  unfold h_cp
  rw [if_pos ⟨rfl, a, b⟩]
theorem h_cpo {s s' : h_S} {q0 q1 n p : Nat} (u : s' = h_cp s q0 q1 n) (h : Nat.beq p q1 = false) (j : Int) : s' p j = s p j := by
  subst u
  unfold h_cp
  rw [if_neg (fun x => by rw [x.1, Nat.beq_refl] at h; cases h)]
theorem cp_s {s s2 : h_S} {F : Int → Int} {t b e v : Int} (u : s2 = h_up s 99 e v) (he : e = t + b) (hv : v = F b) (z : ∀ j, 0 ≤ j → j < b → s 99 (t + j) = F j) : ∀ j, 0 ≤ j → j < b + 1 → s2 99 (t + j) = F j := fun j a c => by
  rw [h_upi u (t + j)]
  by_cases h : j = b
  · rw [if_pos (by omega), hv, h]
  · rw [if_neg (by omega)]; exact z j a (by omega)
def kf_n_copy_36_10 : List Nat := [36872, 36873, 36874, 38911, 39935, 39938, 41983, 43007, 43010, 45055, 46079, 47103, 48127, 49151, 50175]
set_option maxHeartbeats 100000000 in
set_option maxHeartbeats 100000000 in
theorem n_copy_36_10 {ns : Nat} (σ : h_S) (hI : h_I σ) {Q : Option Value → h_S → Prop} (kk : ∀ (τ : h_S), h_I τ → h_F (k_in kf_n_copy_36_10) τ σ → (c_eq true τ 36 σ 10) → Q none τ) : h_T g_P (g_Y ns) 3 0 [(0, .ref 36), (1, .ref 10)] [] σ Q := by
  have F00 : h_F (k_in kf_n_copy_36_10) σ σ := h_F.rf
  refine h_aload_n (pc' := 1) rfl rfl rfl ?_
  refine h_getR (pc' := 4) rfl rfl rfl rfl rfl ?_
  refine h_iconst (pc' := 5) (x := (Int32.ofInt 0)) rfl rfl rfl ?_
  refine h_aload_n (pc' := 6) rfl rfl rfl ?_
  refine h_getR (pc' := 9) rfl rfl rfl rfl rfl ?_
  refine h_iconst (pc' := 10) (x := (Int32.ofInt 0)) rfl rfl rfl ?_
  refine h_bipush (pc' := 12) (x := (Int32.ofInt 6)) rfl rfl cb_6 ?_
  refine h_acp (pc' := 15) rfl rfl rfl rfl rfl rfl rfl rfl rfl rfl ci_6 (h_fgt (E := fun s => s 98 13 = σ 98 13 ∧ s = h_cp σ 11 37 6) _ (h_I_cp hI (fun _ _ h => h)) (F00.cp (fun _ => rfl)) ⟨rfl, rfl⟩ (fun s1 Is1 Fs1 (es1 : s1 98 13 = σ 98 13 ∧ s1 = h_cp σ 11 37 6) => ?_))
  have us1 := es1.2
  refine h_aload_n (pc' := 16) rfl rfl rfl ?_
  refine h_getR (pc' := 19) rfl rfl rfl rfl rfl ?_
  refine h_iconst (pc' := 20) (x := (Int32.ofInt 0)) rfl rfl rfl ?_
  refine h_aload_n (pc' := 21) rfl rfl rfl ?_
  refine h_getR (pc' := 24) rfl rfl rfl rfl rfl ?_
  refine h_iconst (pc' := 25) (x := (Int32.ofInt 0)) rfl rfl rfl ?_
  refine h_bipush (pc' := 27) (x := (Int32.ofInt 6)) rfl rfl cb_6 ?_
  refine h_acp (pc' := 30) rfl rfl rfl rfl rfl rfl rfl rfl rfl rfl ci_6 (h_fgt (E := fun s => s 98 13 = σ 98 13 ∧ s = h_cp s1 12 38 6) _ (h_I_cp Is1 (fun _ _ h => h)) (Fs1.cp (fun _ => rfl)) ⟨es1.1, rfl⟩ (fun s2 Is2 Fs2 (es2 : s2 98 13 = σ 98 13 ∧ s2 = h_cp s1 12 38 6) => ?_))
  have us2 := es2.2
  clear es1
  refine h_aload_n (pc' := 31) rfl rfl rfl ?_
  refine h_getR (pc' := 34) rfl rfl rfl rfl rfl ?_
  refine h_aload_n (pc' := 35) rfl rfl rfl ?_
  refine h_getR (pc' := 38) rfl rfl rfl rfl rfl ?_
  refine h_call (sp := false) (pc' := 41) (M := [(0, .ref 39), (1, .ref 13)]) rfl rfl rfl rfl rfl rfl rfl rfl ?_
  refine h_aload_n (pc' := 1) rfl rfl rfl ?_
  refine h_getR (pc' := 4) rfl rfl rfl rfl rfl ?_
  refine h_iconst (pc' := 5) (x := (Int32.ofInt 0)) rfl rfl rfl ?_
  refine h_aload_n (pc' := 6) rfl rfl rfl ?_
  refine h_getR (pc' := 9) rfl rfl rfl rfl rfl ?_
  refine h_iconst (pc' := 10) (x := (Int32.ofInt 0)) rfl rfl rfl ?_
  refine h_iconst (pc' := 11) (x := (Int32.ofInt 3)) rfl rfl rfl ?_
  refine h_acp (pc' := 14) rfl rfl rfl rfl rfl rfl rfl rfl rfl rfl ci_3 (h_fgt (E := fun s => s 98 13 = σ 98 13 ∧ s = h_cp s2 14 40 3) _ (h_I_cp Is2 (fun _ _ h => h)) (Fs2.cp (fun _ => rfl)) ⟨es2.1, rfl⟩ (fun s3 Is3 Fs3 (es3 : s3 98 13 = σ 98 13 ∧ s3 = h_cp s2 14 40 3) => ?_))
  have us3 := es3.2
  clear es2
  refine h_aload_n (pc' := 15) rfl rfl rfl ?_
  refine h_getR (pc' := 18) rfl rfl rfl rfl rfl ?_
  refine h_iconst (pc' := 19) (x := (Int32.ofInt 0)) rfl rfl rfl ?_
  refine h_aload_n (pc' := 20) rfl rfl rfl ?_
  refine h_getR (pc' := 23) rfl rfl rfl rfl rfl ?_
  refine h_iconst (pc' := 24) (x := (Int32.ofInt 0)) rfl rfl rfl ?_
  refine h_iconst (pc' := 25) (x := (Int32.ofInt 3)) rfl rfl rfl ?_
  refine h_acp (pc' := 28) rfl rfl rfl rfl rfl rfl rfl rfl rfl rfl ci_3 (h_fgt (E := fun s => s 98 13 = σ 98 13 ∧ s = h_cp s3 15 41 3) _ (h_I_cp Is3 (fun _ _ h => h)) (Fs3.cp (fun _ => rfl)) ⟨es3.1, rfl⟩ (fun s4 Is4 Fs4 (es4 : s4 98 13 = σ 98 13 ∧ s4 = h_cp s3 15 41 3) => ?_))
  have us4 := es4.2
  clear es3
  refine h_aload_n (pc' := 29) rfl rfl rfl ?_
  refine h_aload_n (pc' := 30) rfl rfl rfl ?_
  refine h_getI (pc' := 33) (v := σ 13 2) rfl rfl rfl rfl rfl (Fs4 13 2 rfl) (fun z5 hz5 => ?_)
  have tz5 := tf_13_2 hI
  refine h_put (pc' := 36) rfl rfl rfl rfl rfl rfl hz5 rfl (h_fgt (E := fun s => s 98 13 = σ 98 13 ∧ s = h_up s4 39 2 (σ 13 2)) _ (if_39_2 Is4 (by omega)) (Fs4.up rfl) ⟨es4.1, rfl⟩ (fun s6 Is6 Fs6 (es6 : s6 98 13 = σ 98 13 ∧ s6 = h_up s4 39 2 (σ 13 2)) => ?_))
  clear es4
  have us6 := es6.2
  refine h_vret rfl rfl (h_Kn ?_)
  refine h_aload_n (pc' := 42) rfl rfl rfl ?_
  refine h_getR (pc' := 45) rfl rfl rfl rfl rfl ?_
  refine h_aload_n (pc' := 46) rfl rfl rfl ?_
  refine h_getR (pc' := 49) rfl rfl rfl rfl rfl ?_
  refine h_call (sp := false) (pc' := 52) (M := [(0, .ref 42), (1, .ref 16)]) rfl rfl rfl rfl rfl rfl rfl rfl ?_
  refine h_aload_n (pc' := 1) rfl rfl rfl ?_
  refine h_getR (pc' := 4) rfl rfl rfl rfl rfl ?_
  refine h_iconst (pc' := 5) (x := (Int32.ofInt 0)) rfl rfl rfl ?_
  refine h_aload_n (pc' := 6) rfl rfl rfl ?_
  refine h_getR (pc' := 9) rfl rfl rfl rfl rfl ?_
  refine h_iconst (pc' := 10) (x := (Int32.ofInt 0)) rfl rfl rfl ?_
  refine h_iconst (pc' := 11) (x := (Int32.ofInt 3)) rfl rfl rfl ?_
  refine h_acp (pc' := 14) rfl rfl rfl rfl rfl rfl rfl rfl rfl rfl ci_3 (h_fgt (E := fun s => s 98 13 = σ 98 13 ∧ s = h_cp s6 17 43 3) _ (h_I_cp Is6 (fun _ _ h => h)) (Fs6.cp (fun _ => rfl)) ⟨es6.1, rfl⟩ (fun s7 Is7 Fs7 (es7 : s7 98 13 = σ 98 13 ∧ s7 = h_cp s6 17 43 3) => ?_))
  have us7 := es7.2
  clear es6
  refine h_aload_n (pc' := 15) rfl rfl rfl ?_
  refine h_getR (pc' := 18) rfl rfl rfl rfl rfl ?_
  refine h_iconst (pc' := 19) (x := (Int32.ofInt 0)) rfl rfl rfl ?_
  refine h_aload_n (pc' := 20) rfl rfl rfl ?_
  refine h_getR (pc' := 23) rfl rfl rfl rfl rfl ?_
  refine h_iconst (pc' := 24) (x := (Int32.ofInt 0)) rfl rfl rfl ?_
  refine h_iconst (pc' := 25) (x := (Int32.ofInt 3)) rfl rfl rfl ?_
  refine h_acp (pc' := 28) rfl rfl rfl rfl rfl rfl rfl rfl rfl rfl ci_3 (h_fgt (E := fun s => s 98 13 = σ 98 13 ∧ s = h_cp s7 18 44 3) _ (h_I_cp Is7 (fun _ _ h => h)) (Fs7.cp (fun _ => rfl)) ⟨es7.1, rfl⟩ (fun s8 Is8 Fs8 (es8 : s8 98 13 = σ 98 13 ∧ s8 = h_cp s7 18 44 3) => ?_))
  have us8 := es8.2
  clear es7
  refine h_aload_n (pc' := 29) rfl rfl rfl ?_
  refine h_aload_n (pc' := 30) rfl rfl rfl ?_
  refine h_getI (pc' := 33) (v := σ 16 2) rfl rfl rfl rfl rfl (Fs8 16 2 rfl) (fun z9 hz9 => ?_)
  have tz9 := tf_16_2 hI
  refine h_put (pc' := 36) rfl rfl rfl rfl rfl rfl hz9 rfl (h_fgt (E := fun s => s 98 13 = σ 98 13 ∧ s = h_up s8 42 2 (σ 16 2)) _ (if_42_2 Is8 (by omega)) (Fs8.up rfl) ⟨es8.1, rfl⟩ (fun s10 Is10 Fs10 (es10 : s10 98 13 = σ 98 13 ∧ s10 = h_up s8 42 2 (σ 16 2)) => ?_))
  clear es8
  have us10 := es10.2
  refine h_vret rfl rfl (h_Kn ?_)
  refine h_aload_n (pc' := 53) rfl rfl rfl ?_
  refine h_getR (pc' := 56) rfl rfl rfl rfl rfl ?_
  refine h_iconst (pc' := 57) (x := (Int32.ofInt 0)) rfl rfl rfl ?_
  refine h_aload_n (pc' := 58) rfl rfl rfl ?_
  refine h_getR (pc' := 61) rfl rfl rfl rfl rfl ?_
  refine h_iconst (pc' := 62) (x := (Int32.ofInt 0)) rfl rfl rfl ?_
  refine h_iconst (pc' := 63) (x := (Int32.ofInt 3)) rfl rfl rfl ?_
  refine h_acp (pc' := 66) rfl rfl rfl rfl rfl rfl rfl rfl rfl rfl ci_3 (h_fgt (E := fun s => s 98 13 = σ 98 13 ∧ s = h_cp s10 19 45 3) _ (h_I_cp Is10 (fun _ _ h => h)) (Fs10.cp (fun _ => rfl)) ⟨es10.1, rfl⟩ (fun s11 Is11 Fs11 (es11 : s11 98 13 = σ 98 13 ∧ s11 = h_cp s10 19 45 3) => ?_))
  have us11 := es11.2
  clear es10
  refine h_aload_n (pc' := 67) rfl rfl rfl ?_
  refine h_getR (pc' := 70) rfl rfl rfl rfl rfl ?_
  refine h_iconst (pc' := 71) (x := (Int32.ofInt 0)) rfl rfl rfl ?_
  refine h_aload_n (pc' := 72) rfl rfl rfl ?_
  refine h_getR (pc' := 75) rfl rfl rfl rfl rfl ?_
  refine h_iconst (pc' := 76) (x := (Int32.ofInt 0)) rfl rfl rfl ?_
  refine h_iconst (pc' := 77) (x := (Int32.ofInt 3)) rfl rfl rfl ?_
  refine h_acp (pc' := 80) rfl rfl rfl rfl rfl rfl rfl rfl rfl rfl ci_3 (h_fgt (E := fun s => s 98 13 = σ 98 13 ∧ s = h_cp s11 20 46 3) _ (h_I_cp Is11 (fun _ _ h => h)) (Fs11.cp (fun _ => rfl)) ⟨es11.1, rfl⟩ (fun s12 Is12 Fs12 (es12 : s12 98 13 = σ 98 13 ∧ s12 = h_cp s11 20 46 3) => ?_))
  have us12 := es12.2
  clear es11
  refine h_aload_n (pc' := 81) rfl rfl rfl ?_
  refine h_getR (pc' := 84) rfl rfl rfl rfl rfl ?_
  refine h_iconst (pc' := 85) (x := (Int32.ofInt 0)) rfl rfl rfl ?_
  refine h_aload_n (pc' := 86) rfl rfl rfl ?_
  refine h_getR (pc' := 89) rfl rfl rfl rfl rfl ?_
  refine h_iconst (pc' := 90) (x := (Int32.ofInt 0)) rfl rfl rfl ?_
  refine h_iconst (pc' := 91) (x := (Int32.ofInt 3)) rfl rfl rfl ?_
  refine h_acp (pc' := 94) rfl rfl rfl rfl rfl rfl rfl rfl rfl rfl ci_3 (h_fgt (E := fun s => s 98 13 = σ 98 13 ∧ s = h_cp s12 21 47 3) _ (h_I_cp Is12 (fun _ _ h => h)) (Fs12.cp (fun _ => rfl)) ⟨es12.1, rfl⟩ (fun s13 Is13 Fs13 (es13 : s13 98 13 = σ 98 13 ∧ s13 = h_cp s12 21 47 3) => ?_))
  have us13 := es13.2
  clear es12
  refine h_aload_n (pc' := 95) rfl rfl rfl ?_
  refine h_getR (pc' := 98) rfl rfl rfl rfl rfl ?_
  refine h_iconst (pc' := 99) (x := (Int32.ofInt 0)) rfl rfl rfl ?_
  refine h_aload_n (pc' := 100) rfl rfl rfl ?_
  refine h_getR (pc' := 103) rfl rfl rfl rfl rfl ?_
  refine h_iconst (pc' := 104) (x := (Int32.ofInt 0)) rfl rfl rfl ?_
  refine h_bipush (pc' := 106) (x := (Int32.ofInt 8)) rfl rfl cb_8 ?_
  refine h_acp (pc' := 109) rfl rfl rfl rfl rfl rfl rfl rfl rfl rfl ci_8 (h_fgt (E := fun s => s 98 13 = σ 98 13 ∧ s = h_cp s13 22 48 8) _ (h_I_cp Is13 (fun _ _ h => h)) (Fs13.cp (fun _ => rfl)) ⟨es13.1, rfl⟩ (fun s14 Is14 Fs14 (es14 : s14 98 13 = σ 98 13 ∧ s14 = h_cp s13 22 48 8) => ?_))
  have us14 := es14.2
  clear es13
  refine h_aload_n (pc' := 110) rfl rfl rfl ?_
  refine h_aload_n (pc' := 111) rfl rfl rfl ?_
  refine h_getI (pc' := 114) (v := σ 10 8) rfl rfl rfl rfl rfl (Fs14 10 8 rfl) (fun z15 hz15 => ?_)
  have tz15 := tf_10_8 hI
  refine h_put (pc' := 117) rfl rfl rfl rfl rfl rfl hz15 rfl (h_fgt (E := fun s => s 98 13 = σ 98 13 ∧ s = h_up s14 36 8 (σ 10 8)) _ (if_36_8 Is14 (by omega)) (Fs14.up rfl) ⟨es14.1, rfl⟩ (fun s16 Is16 Fs16 (es16 : s16 98 13 = σ 98 13 ∧ s16 = h_up s14 36 8 (σ 10 8)) => ?_))
  clear es14
  have us16 := es16.2
  refine h_aload_n (pc' := 118) rfl rfl rfl ?_
  refine h_aload_n (pc' := 119) rfl rfl rfl ?_
  refine h_getI (pc' := 122) (v := σ 10 9) rfl rfl rfl rfl rfl (Fs16 10 9 rfl) (fun z17 hz17 => ?_)
  have tz17 := tf_10_9 hI
  refine h_put (pc' := 125) rfl rfl rfl rfl rfl rfl hz17 rfl (h_fgt (E := fun s => s 98 13 = σ 98 13 ∧ s = h_up s16 36 9 (σ 10 9)) _ (if_36_9 Is16 (by omega)) (Fs16.up rfl) ⟨es16.1, rfl⟩ (fun s18 Is18 Fs18 (es18 : s18 98 13 = σ 98 13 ∧ s18 = h_up s16 36 9 (σ 10 9)) => ?_))
  clear es16
  have us18 := es18.2
  refine h_aload_n (pc' := 126) rfl rfl rfl ?_
  refine h_aload_n (pc' := 127) rfl rfl rfl ?_
  refine h_getI (pc' := 130) (v := σ 10 10) rfl rfl rfl rfl rfl (Fs18 10 10 rfl) (fun z19 hz19 => ?_)
  have tz19 := tf_10_10 hI
  refine h_put (pc' := 133) rfl rfl rfl rfl rfl rfl hz19 rfl (h_fgt (E := fun s => s 98 13 = σ 98 13 ∧ s = h_up s18 36 10 (σ 10 10)) _ (if_36_10 Is18 (by omega)) (Fs18.up rfl) ⟨es18.1, rfl⟩ (fun s20 Is20 Fs20 (es20 : s20 98 13 = σ 98 13 ∧ s20 = h_up s18 36 10 (σ 10 10)) => ?_))
  clear es18
  have us20 := es20.2
  exact h_vret rfl rfl (kk _ Is20 Fs20 ⟨⟨((h_upd us20 (by decide)).trans ((h_upd us18 (by decide)))).trans (h_upv us16), ((h_upd us20 (by decide))).trans (h_upv us18), h_upv us20, ((h_upo us20 rfl 2).trans ((h_upo us18 rfl 2).trans ((h_upo us16 rfl 2).trans ((h_cpo us14 rfl 2).trans ((h_cpo us13 rfl 2).trans ((h_cpo us12 rfl 2).trans ((h_cpo us11 rfl 2).trans ((h_upo us10 rfl 2).trans ((h_cpo us8 rfl 2).trans ((h_cpo us7 rfl 2))))))))))).trans (h_upv us6), ((h_upo us20 rfl 2).trans ((h_upo us18 rfl 2).trans ((h_upo us16 rfl 2).trans ((h_cpo us14 rfl 2).trans ((h_cpo us13 rfl 2).trans ((h_cpo us12 rfl 2).trans ((h_cpo us11 rfl 2)))))))).trans (h_upv us10)⟩, fun j a b => ((h_upo us20 rfl j).trans ((h_upo us18 rfl j).trans ((h_upo us16 rfl j).trans ((h_cpo us14 rfl j).trans ((h_cpo us13 rfl j).trans ((h_cpo us12 rfl j).trans ((h_cpo us11 rfl j).trans ((h_upo us10 rfl j).trans ((h_cpo us8 rfl j).trans ((h_cpo us7 rfl j).trans ((h_upo us6 rfl j).trans ((h_cpo us4 rfl j).trans ((h_cpo us3 rfl j).trans ((h_cpo us2 rfl j))))))))))))))).trans (h_cpi us1 a b), fun j a b => (((h_upo us20 rfl j).trans ((h_upo us18 rfl j).trans ((h_upo us16 rfl j).trans ((h_cpo us14 rfl j).trans ((h_cpo us13 rfl j).trans ((h_cpo us12 rfl j).trans ((h_cpo us11 rfl j).trans ((h_upo us10 rfl j).trans ((h_cpo us8 rfl j).trans ((h_cpo us7 rfl j).trans ((h_upo us6 rfl j).trans ((h_cpo us4 rfl j).trans ((h_cpo us3 rfl j)))))))))))))).trans (h_cpi us2 a b)).trans ((h_cpo us1 rfl j)), fun j a b => (((h_upo us20 rfl j).trans ((h_upo us18 rfl j).trans ((h_upo us16 rfl j).trans ((h_cpo us14 rfl j).trans ((h_cpo us13 rfl j).trans ((h_cpo us12 rfl j).trans ((h_cpo us11 rfl j).trans ((h_upo us10 rfl j).trans ((h_cpo us8 rfl j).trans ((h_cpo us7 rfl j).trans ((h_upo us6 rfl j).trans ((h_cpo us4 rfl j))))))))))))).trans (h_cpi us3 a b)).trans ((h_cpo us2 rfl j).trans ((h_cpo us1 rfl j))), fun j a b => (((h_upo us20 rfl j).trans ((h_upo us18 rfl j).trans ((h_upo us16 rfl j).trans ((h_cpo us14 rfl j).trans ((h_cpo us13 rfl j).trans ((h_cpo us12 rfl j).trans ((h_cpo us11 rfl j).trans ((h_upo us10 rfl j).trans ((h_cpo us8 rfl j).trans ((h_cpo us7 rfl j).trans ((h_upo us6 rfl j)))))))))))).trans (h_cpi us4 a b)).trans ((h_cpo us3 rfl j).trans ((h_cpo us2 rfl j).trans ((h_cpo us1 rfl j)))), fun j a b => (((h_upo us20 rfl j).trans ((h_upo us18 rfl j).trans ((h_upo us16 rfl j).trans ((h_cpo us14 rfl j).trans ((h_cpo us13 rfl j).trans ((h_cpo us12 rfl j).trans ((h_cpo us11 rfl j).trans ((h_upo us10 rfl j).trans ((h_cpo us8 rfl j)))))))))).trans (h_cpi us7 a b)).trans ((h_upo us6 rfl j).trans ((h_cpo us4 rfl j).trans ((h_cpo us3 rfl j).trans ((h_cpo us2 rfl j).trans ((h_cpo us1 rfl j)))))), fun j a b => (((h_upo us20 rfl j).trans ((h_upo us18 rfl j).trans ((h_upo us16 rfl j).trans ((h_cpo us14 rfl j).trans ((h_cpo us13 rfl j).trans ((h_cpo us12 rfl j).trans ((h_cpo us11 rfl j).trans ((h_upo us10 rfl j))))))))).trans (h_cpi us8 a b)).trans ((h_cpo us7 rfl j).trans ((h_upo us6 rfl j).trans ((h_cpo us4 rfl j).trans ((h_cpo us3 rfl j).trans ((h_cpo us2 rfl j).trans ((h_cpo us1 rfl j))))))), fun j a b => (((h_upo us20 rfl j).trans ((h_upo us18 rfl j).trans ((h_upo us16 rfl j).trans ((h_cpo us14 rfl j).trans ((h_cpo us13 rfl j).trans ((h_cpo us12 rfl j))))))).trans (h_cpi us11 a b)).trans ((h_upo us10 rfl j).trans ((h_cpo us8 rfl j).trans ((h_cpo us7 rfl j).trans ((h_upo us6 rfl j).trans ((h_cpo us4 rfl j).trans ((h_cpo us3 rfl j).trans ((h_cpo us2 rfl j).trans ((h_cpo us1 rfl j))))))))), fun j a b => (((h_upo us20 rfl j).trans ((h_upo us18 rfl j).trans ((h_upo us16 rfl j)))).trans (h_cpi us14 a b)).trans ((h_cpo us13 rfl j).trans ((h_cpo us12 rfl j).trans ((h_cpo us11 rfl j).trans ((h_upo us10 rfl j).trans ((h_cpo us8 rfl j).trans ((h_cpo us7 rfl j).trans ((h_upo us6 rfl j).trans ((h_cpo us4 rfl j).trans ((h_cpo us3 rfl j).trans ((h_cpo us2 rfl j).trans ((h_cpo us1 rfl j)))))))))))), fun _ => ⟨fun j a b => (((h_upo us20 rfl j).trans ((h_upo us18 rfl j).trans ((h_upo us16 rfl j).trans ((h_cpo us14 rfl j).trans ((h_cpo us13 rfl j)))))).trans (h_cpi us12 a b)).trans ((h_cpo us11 rfl j).trans ((h_upo us10 rfl j).trans ((h_cpo us8 rfl j).trans ((h_cpo us7 rfl j).trans ((h_upo us6 rfl j).trans ((h_cpo us4 rfl j).trans ((h_cpo us3 rfl j).trans ((h_cpo us2 rfl j).trans ((h_cpo us1 rfl j)))))))))), fun j a b => (((h_upo us20 rfl j).trans ((h_upo us18 rfl j).trans ((h_upo us16 rfl j).trans ((h_cpo us14 rfl j))))).trans (h_cpi us13 a b)).trans ((h_cpo us12 rfl j).trans ((h_cpo us11 rfl j).trans ((h_upo us10 rfl j).trans ((h_cpo us8 rfl j).trans ((h_cpo us7 rfl j).trans ((h_upo us6 rfl j).trans ((h_cpo us4 rfl j).trans ((h_cpo us3 rfl j).trans ((h_cpo us2 rfl j).trans ((h_cpo us1 rfl j)))))))))))⟩⟩)
def kf_n_copy_49_10 : List Nat := [50184, 50185, 50186, 52223, 53247, 53250, 55295, 56319, 56322, 58367, 59391, 60415, 61439, 62463, 63487]
set_option maxHeartbeats 100000000 in
set_option maxHeartbeats 100000000 in
theorem n_copy_49_10 {ns : Nat} (σ : h_S) (hI : h_I σ) {Q : Option Value → h_S → Prop} (kk : ∀ (τ : h_S), h_I τ → h_F (k_in kf_n_copy_49_10) τ σ → (c_eq true τ 49 σ 10) → Q none τ) : h_T g_P (g_Y ns) 3 0 [(0, .ref 49), (1, .ref 10)] [] σ Q := by
  have F00 : h_F (k_in kf_n_copy_49_10) σ σ := h_F.rf
  refine h_aload_n (pc' := 1) rfl rfl rfl ?_
  refine h_getR (pc' := 4) rfl rfl rfl rfl rfl ?_
  refine h_iconst (pc' := 5) (x := (Int32.ofInt 0)) rfl rfl rfl ?_
  refine h_aload_n (pc' := 6) rfl rfl rfl ?_
  refine h_getR (pc' := 9) rfl rfl rfl rfl rfl ?_
  refine h_iconst (pc' := 10) (x := (Int32.ofInt 0)) rfl rfl rfl ?_
  refine h_bipush (pc' := 12) (x := (Int32.ofInt 6)) rfl rfl cb_6 ?_
  refine h_acp (pc' := 15) rfl rfl rfl rfl rfl rfl rfl rfl rfl rfl ci_6 (h_fgt (E := fun s => s 98 13 = σ 98 13 ∧ s = h_cp σ 11 50 6) _ (h_I_cp hI (fun _ _ h => h)) (F00.cp (fun _ => rfl)) ⟨rfl, rfl⟩ (fun s1 Is1 Fs1 (es1 : s1 98 13 = σ 98 13 ∧ s1 = h_cp σ 11 50 6) => ?_))
  have us1 := es1.2
  refine h_aload_n (pc' := 16) rfl rfl rfl ?_
  refine h_getR (pc' := 19) rfl rfl rfl rfl rfl ?_
  refine h_iconst (pc' := 20) (x := (Int32.ofInt 0)) rfl rfl rfl ?_
  refine h_aload_n (pc' := 21) rfl rfl rfl ?_
  refine h_getR (pc' := 24) rfl rfl rfl rfl rfl ?_
  refine h_iconst (pc' := 25) (x := (Int32.ofInt 0)) rfl rfl rfl ?_
  refine h_bipush (pc' := 27) (x := (Int32.ofInt 6)) rfl rfl cb_6 ?_
  refine h_acp (pc' := 30) rfl rfl rfl rfl rfl rfl rfl rfl rfl rfl ci_6 (h_fgt (E := fun s => s 98 13 = σ 98 13 ∧ s = h_cp s1 12 51 6) _ (h_I_cp Is1 (fun _ _ h => h)) (Fs1.cp (fun _ => rfl)) ⟨es1.1, rfl⟩ (fun s2 Is2 Fs2 (es2 : s2 98 13 = σ 98 13 ∧ s2 = h_cp s1 12 51 6) => ?_))
  have us2 := es2.2
  clear es1
  refine h_aload_n (pc' := 31) rfl rfl rfl ?_
  refine h_getR (pc' := 34) rfl rfl rfl rfl rfl ?_
  refine h_aload_n (pc' := 35) rfl rfl rfl ?_
  refine h_getR (pc' := 38) rfl rfl rfl rfl rfl ?_
  refine h_call (sp := false) (pc' := 41) (M := [(0, .ref 52), (1, .ref 13)]) rfl rfl rfl rfl rfl rfl rfl rfl ?_
  refine h_aload_n (pc' := 1) rfl rfl rfl ?_
  refine h_getR (pc' := 4) rfl rfl rfl rfl rfl ?_
  refine h_iconst (pc' := 5) (x := (Int32.ofInt 0)) rfl rfl rfl ?_
  refine h_aload_n (pc' := 6) rfl rfl rfl ?_
  refine h_getR (pc' := 9) rfl rfl rfl rfl rfl ?_
  refine h_iconst (pc' := 10) (x := (Int32.ofInt 0)) rfl rfl rfl ?_
  refine h_iconst (pc' := 11) (x := (Int32.ofInt 3)) rfl rfl rfl ?_
  refine h_acp (pc' := 14) rfl rfl rfl rfl rfl rfl rfl rfl rfl rfl ci_3 (h_fgt (E := fun s => s 98 13 = σ 98 13 ∧ s = h_cp s2 14 53 3) _ (h_I_cp Is2 (fun _ _ h => h)) (Fs2.cp (fun _ => rfl)) ⟨es2.1, rfl⟩ (fun s3 Is3 Fs3 (es3 : s3 98 13 = σ 98 13 ∧ s3 = h_cp s2 14 53 3) => ?_))
  have us3 := es3.2
  clear es2
  refine h_aload_n (pc' := 15) rfl rfl rfl ?_
  refine h_getR (pc' := 18) rfl rfl rfl rfl rfl ?_
  refine h_iconst (pc' := 19) (x := (Int32.ofInt 0)) rfl rfl rfl ?_
  refine h_aload_n (pc' := 20) rfl rfl rfl ?_
  refine h_getR (pc' := 23) rfl rfl rfl rfl rfl ?_
  refine h_iconst (pc' := 24) (x := (Int32.ofInt 0)) rfl rfl rfl ?_
  refine h_iconst (pc' := 25) (x := (Int32.ofInt 3)) rfl rfl rfl ?_
  refine h_acp (pc' := 28) rfl rfl rfl rfl rfl rfl rfl rfl rfl rfl ci_3 (h_fgt (E := fun s => s 98 13 = σ 98 13 ∧ s = h_cp s3 15 54 3) _ (h_I_cp Is3 (fun _ _ h => h)) (Fs3.cp (fun _ => rfl)) ⟨es3.1, rfl⟩ (fun s4 Is4 Fs4 (es4 : s4 98 13 = σ 98 13 ∧ s4 = h_cp s3 15 54 3) => ?_))
  have us4 := es4.2
  clear es3
  refine h_aload_n (pc' := 29) rfl rfl rfl ?_
  refine h_aload_n (pc' := 30) rfl rfl rfl ?_
  refine h_getI (pc' := 33) (v := σ 13 2) rfl rfl rfl rfl rfl (Fs4 13 2 rfl) (fun z5 hz5 => ?_)
  have tz5 := tf_13_2 hI
  refine h_put (pc' := 36) rfl rfl rfl rfl rfl rfl hz5 rfl (h_fgt (E := fun s => s 98 13 = σ 98 13 ∧ s = h_up s4 52 2 (σ 13 2)) _ (if_52_2 Is4 (by omega)) (Fs4.up rfl) ⟨es4.1, rfl⟩ (fun s6 Is6 Fs6 (es6 : s6 98 13 = σ 98 13 ∧ s6 = h_up s4 52 2 (σ 13 2)) => ?_))
  clear es4
  have us6 := es6.2
  refine h_vret rfl rfl (h_Kn ?_)
  refine h_aload_n (pc' := 42) rfl rfl rfl ?_
  refine h_getR (pc' := 45) rfl rfl rfl rfl rfl ?_
  refine h_aload_n (pc' := 46) rfl rfl rfl ?_
  refine h_getR (pc' := 49) rfl rfl rfl rfl rfl ?_
  refine h_call (sp := false) (pc' := 52) (M := [(0, .ref 55), (1, .ref 16)]) rfl rfl rfl rfl rfl rfl rfl rfl ?_
  refine h_aload_n (pc' := 1) rfl rfl rfl ?_
  refine h_getR (pc' := 4) rfl rfl rfl rfl rfl ?_
  refine h_iconst (pc' := 5) (x := (Int32.ofInt 0)) rfl rfl rfl ?_
  refine h_aload_n (pc' := 6) rfl rfl rfl ?_
  refine h_getR (pc' := 9) rfl rfl rfl rfl rfl ?_
  refine h_iconst (pc' := 10) (x := (Int32.ofInt 0)) rfl rfl rfl ?_
  refine h_iconst (pc' := 11) (x := (Int32.ofInt 3)) rfl rfl rfl ?_
  refine h_acp (pc' := 14) rfl rfl rfl rfl rfl rfl rfl rfl rfl rfl ci_3 (h_fgt (E := fun s => s 98 13 = σ 98 13 ∧ s = h_cp s6 17 56 3) _ (h_I_cp Is6 (fun _ _ h => h)) (Fs6.cp (fun _ => rfl)) ⟨es6.1, rfl⟩ (fun s7 Is7 Fs7 (es7 : s7 98 13 = σ 98 13 ∧ s7 = h_cp s6 17 56 3) => ?_))
  have us7 := es7.2
  clear es6
  refine h_aload_n (pc' := 15) rfl rfl rfl ?_
  refine h_getR (pc' := 18) rfl rfl rfl rfl rfl ?_
  refine h_iconst (pc' := 19) (x := (Int32.ofInt 0)) rfl rfl rfl ?_
  refine h_aload_n (pc' := 20) rfl rfl rfl ?_
  refine h_getR (pc' := 23) rfl rfl rfl rfl rfl ?_
  refine h_iconst (pc' := 24) (x := (Int32.ofInt 0)) rfl rfl rfl ?_
  refine h_iconst (pc' := 25) (x := (Int32.ofInt 3)) rfl rfl rfl ?_
  refine h_acp (pc' := 28) rfl rfl rfl rfl rfl rfl rfl rfl rfl rfl ci_3 (h_fgt (E := fun s => s 98 13 = σ 98 13 ∧ s = h_cp s7 18 57 3) _ (h_I_cp Is7 (fun _ _ h => h)) (Fs7.cp (fun _ => rfl)) ⟨es7.1, rfl⟩ (fun s8 Is8 Fs8 (es8 : s8 98 13 = σ 98 13 ∧ s8 = h_cp s7 18 57 3) => ?_))
  have us8 := es8.2
  clear es7
  refine h_aload_n (pc' := 29) rfl rfl rfl ?_
  refine h_aload_n (pc' := 30) rfl rfl rfl ?_
  refine h_getI (pc' := 33) (v := σ 16 2) rfl rfl rfl rfl rfl (Fs8 16 2 rfl) (fun z9 hz9 => ?_)
  have tz9 := tf_16_2 hI
  refine h_put (pc' := 36) rfl rfl rfl rfl rfl rfl hz9 rfl (h_fgt (E := fun s => s 98 13 = σ 98 13 ∧ s = h_up s8 55 2 (σ 16 2)) _ (if_55_2 Is8 (by omega)) (Fs8.up rfl) ⟨es8.1, rfl⟩ (fun s10 Is10 Fs10 (es10 : s10 98 13 = σ 98 13 ∧ s10 = h_up s8 55 2 (σ 16 2)) => ?_))
  clear es8
  have us10 := es10.2
  refine h_vret rfl rfl (h_Kn ?_)
  refine h_aload_n (pc' := 53) rfl rfl rfl ?_
  refine h_getR (pc' := 56) rfl rfl rfl rfl rfl ?_
  refine h_iconst (pc' := 57) (x := (Int32.ofInt 0)) rfl rfl rfl ?_
  refine h_aload_n (pc' := 58) rfl rfl rfl ?_
  refine h_getR (pc' := 61) rfl rfl rfl rfl rfl ?_
  refine h_iconst (pc' := 62) (x := (Int32.ofInt 0)) rfl rfl rfl ?_
  refine h_iconst (pc' := 63) (x := (Int32.ofInt 3)) rfl rfl rfl ?_
  refine h_acp (pc' := 66) rfl rfl rfl rfl rfl rfl rfl rfl rfl rfl ci_3 (h_fgt (E := fun s => s 98 13 = σ 98 13 ∧ s = h_cp s10 19 58 3) _ (h_I_cp Is10 (fun _ _ h => h)) (Fs10.cp (fun _ => rfl)) ⟨es10.1, rfl⟩ (fun s11 Is11 Fs11 (es11 : s11 98 13 = σ 98 13 ∧ s11 = h_cp s10 19 58 3) => ?_))
  have us11 := es11.2
  clear es10
  refine h_aload_n (pc' := 67) rfl rfl rfl ?_
  refine h_getR (pc' := 70) rfl rfl rfl rfl rfl ?_
  refine h_iconst (pc' := 71) (x := (Int32.ofInt 0)) rfl rfl rfl ?_
  refine h_aload_n (pc' := 72) rfl rfl rfl ?_
  refine h_getR (pc' := 75) rfl rfl rfl rfl rfl ?_
  refine h_iconst (pc' := 76) (x := (Int32.ofInt 0)) rfl rfl rfl ?_
  refine h_iconst (pc' := 77) (x := (Int32.ofInt 3)) rfl rfl rfl ?_
  refine h_acp (pc' := 80) rfl rfl rfl rfl rfl rfl rfl rfl rfl rfl ci_3 (h_fgt (E := fun s => s 98 13 = σ 98 13 ∧ s = h_cp s11 20 59 3) _ (h_I_cp Is11 (fun _ _ h => h)) (Fs11.cp (fun _ => rfl)) ⟨es11.1, rfl⟩ (fun s12 Is12 Fs12 (es12 : s12 98 13 = σ 98 13 ∧ s12 = h_cp s11 20 59 3) => ?_))
  have us12 := es12.2
  clear es11
  refine h_aload_n (pc' := 81) rfl rfl rfl ?_
  refine h_getR (pc' := 84) rfl rfl rfl rfl rfl ?_
  refine h_iconst (pc' := 85) (x := (Int32.ofInt 0)) rfl rfl rfl ?_
  refine h_aload_n (pc' := 86) rfl rfl rfl ?_
  refine h_getR (pc' := 89) rfl rfl rfl rfl rfl ?_
  refine h_iconst (pc' := 90) (x := (Int32.ofInt 0)) rfl rfl rfl ?_
  refine h_iconst (pc' := 91) (x := (Int32.ofInt 3)) rfl rfl rfl ?_
  refine h_acp (pc' := 94) rfl rfl rfl rfl rfl rfl rfl rfl rfl rfl ci_3 (h_fgt (E := fun s => s 98 13 = σ 98 13 ∧ s = h_cp s12 21 60 3) _ (h_I_cp Is12 (fun _ _ h => h)) (Fs12.cp (fun _ => rfl)) ⟨es12.1, rfl⟩ (fun s13 Is13 Fs13 (es13 : s13 98 13 = σ 98 13 ∧ s13 = h_cp s12 21 60 3) => ?_))
  have us13 := es13.2
  clear es12
  refine h_aload_n (pc' := 95) rfl rfl rfl ?_
  refine h_getR (pc' := 98) rfl rfl rfl rfl rfl ?_
  refine h_iconst (pc' := 99) (x := (Int32.ofInt 0)) rfl rfl rfl ?_
  refine h_aload_n (pc' := 100) rfl rfl rfl ?_
  refine h_getR (pc' := 103) rfl rfl rfl rfl rfl ?_
  refine h_iconst (pc' := 104) (x := (Int32.ofInt 0)) rfl rfl rfl ?_
  refine h_bipush (pc' := 106) (x := (Int32.ofInt 8)) rfl rfl cb_8 ?_
  refine h_acp (pc' := 109) rfl rfl rfl rfl rfl rfl rfl rfl rfl rfl ci_8 (h_fgt (E := fun s => s 98 13 = σ 98 13 ∧ s = h_cp s13 22 61 8) _ (h_I_cp Is13 (fun _ _ h => h)) (Fs13.cp (fun _ => rfl)) ⟨es13.1, rfl⟩ (fun s14 Is14 Fs14 (es14 : s14 98 13 = σ 98 13 ∧ s14 = h_cp s13 22 61 8) => ?_))
  have us14 := es14.2
  clear es13
  refine h_aload_n (pc' := 110) rfl rfl rfl ?_
  refine h_aload_n (pc' := 111) rfl rfl rfl ?_
  refine h_getI (pc' := 114) (v := σ 10 8) rfl rfl rfl rfl rfl (Fs14 10 8 rfl) (fun z15 hz15 => ?_)
  have tz15 := tf_10_8 hI
  refine h_put (pc' := 117) rfl rfl rfl rfl rfl rfl hz15 rfl (h_fgt (E := fun s => s 98 13 = σ 98 13 ∧ s = h_up s14 49 8 (σ 10 8)) _ (if_49_8 Is14 (by omega)) (Fs14.up rfl) ⟨es14.1, rfl⟩ (fun s16 Is16 Fs16 (es16 : s16 98 13 = σ 98 13 ∧ s16 = h_up s14 49 8 (σ 10 8)) => ?_))
  clear es14
  have us16 := es16.2
  refine h_aload_n (pc' := 118) rfl rfl rfl ?_
  refine h_aload_n (pc' := 119) rfl rfl rfl ?_
  refine h_getI (pc' := 122) (v := σ 10 9) rfl rfl rfl rfl rfl (Fs16 10 9 rfl) (fun z17 hz17 => ?_)
  have tz17 := tf_10_9 hI
  refine h_put (pc' := 125) rfl rfl rfl rfl rfl rfl hz17 rfl (h_fgt (E := fun s => s 98 13 = σ 98 13 ∧ s = h_up s16 49 9 (σ 10 9)) _ (if_49_9 Is16 (by omega)) (Fs16.up rfl) ⟨es16.1, rfl⟩ (fun s18 Is18 Fs18 (es18 : s18 98 13 = σ 98 13 ∧ s18 = h_up s16 49 9 (σ 10 9)) => ?_))
  clear es16
  have us18 := es18.2
  refine h_aload_n (pc' := 126) rfl rfl rfl ?_
  refine h_aload_n (pc' := 127) rfl rfl rfl ?_
  refine h_getI (pc' := 130) (v := σ 10 10) rfl rfl rfl rfl rfl (Fs18 10 10 rfl) (fun z19 hz19 => ?_)
  have tz19 := tf_10_10 hI
  refine h_put (pc' := 133) rfl rfl rfl rfl rfl rfl hz19 rfl (h_fgt (E := fun s => s 98 13 = σ 98 13 ∧ s = h_up s18 49 10 (σ 10 10)) _ (if_49_10 Is18 (by omega)) (Fs18.up rfl) ⟨es18.1, rfl⟩ (fun s20 Is20 Fs20 (es20 : s20 98 13 = σ 98 13 ∧ s20 = h_up s18 49 10 (σ 10 10)) => ?_))
  clear es18
  have us20 := es20.2
  exact h_vret rfl rfl (kk _ Is20 Fs20 ⟨⟨((h_upd us20 (by decide)).trans ((h_upd us18 (by decide)))).trans (h_upv us16), ((h_upd us20 (by decide))).trans (h_upv us18), h_upv us20, ((h_upo us20 rfl 2).trans ((h_upo us18 rfl 2).trans ((h_upo us16 rfl 2).trans ((h_cpo us14 rfl 2).trans ((h_cpo us13 rfl 2).trans ((h_cpo us12 rfl 2).trans ((h_cpo us11 rfl 2).trans ((h_upo us10 rfl 2).trans ((h_cpo us8 rfl 2).trans ((h_cpo us7 rfl 2))))))))))).trans (h_upv us6), ((h_upo us20 rfl 2).trans ((h_upo us18 rfl 2).trans ((h_upo us16 rfl 2).trans ((h_cpo us14 rfl 2).trans ((h_cpo us13 rfl 2).trans ((h_cpo us12 rfl 2).trans ((h_cpo us11 rfl 2)))))))).trans (h_upv us10)⟩, fun j a b => ((h_upo us20 rfl j).trans ((h_upo us18 rfl j).trans ((h_upo us16 rfl j).trans ((h_cpo us14 rfl j).trans ((h_cpo us13 rfl j).trans ((h_cpo us12 rfl j).trans ((h_cpo us11 rfl j).trans ((h_upo us10 rfl j).trans ((h_cpo us8 rfl j).trans ((h_cpo us7 rfl j).trans ((h_upo us6 rfl j).trans ((h_cpo us4 rfl j).trans ((h_cpo us3 rfl j).trans ((h_cpo us2 rfl j))))))))))))))).trans (h_cpi us1 a b), fun j a b => (((h_upo us20 rfl j).trans ((h_upo us18 rfl j).trans ((h_upo us16 rfl j).trans ((h_cpo us14 rfl j).trans ((h_cpo us13 rfl j).trans ((h_cpo us12 rfl j).trans ((h_cpo us11 rfl j).trans ((h_upo us10 rfl j).trans ((h_cpo us8 rfl j).trans ((h_cpo us7 rfl j).trans ((h_upo us6 rfl j).trans ((h_cpo us4 rfl j).trans ((h_cpo us3 rfl j)))))))))))))).trans (h_cpi us2 a b)).trans ((h_cpo us1 rfl j)), fun j a b => (((h_upo us20 rfl j).trans ((h_upo us18 rfl j).trans ((h_upo us16 rfl j).trans ((h_cpo us14 rfl j).trans ((h_cpo us13 rfl j).trans ((h_cpo us12 rfl j).trans ((h_cpo us11 rfl j).trans ((h_upo us10 rfl j).trans ((h_cpo us8 rfl j).trans ((h_cpo us7 rfl j).trans ((h_upo us6 rfl j).trans ((h_cpo us4 rfl j))))))))))))).trans (h_cpi us3 a b)).trans ((h_cpo us2 rfl j).trans ((h_cpo us1 rfl j))), fun j a b => (((h_upo us20 rfl j).trans ((h_upo us18 rfl j).trans ((h_upo us16 rfl j).trans ((h_cpo us14 rfl j).trans ((h_cpo us13 rfl j).trans ((h_cpo us12 rfl j).trans ((h_cpo us11 rfl j).trans ((h_upo us10 rfl j).trans ((h_cpo us8 rfl j).trans ((h_cpo us7 rfl j).trans ((h_upo us6 rfl j)))))))))))).trans (h_cpi us4 a b)).trans ((h_cpo us3 rfl j).trans ((h_cpo us2 rfl j).trans ((h_cpo us1 rfl j)))), fun j a b => (((h_upo us20 rfl j).trans ((h_upo us18 rfl j).trans ((h_upo us16 rfl j).trans ((h_cpo us14 rfl j).trans ((h_cpo us13 rfl j).trans ((h_cpo us12 rfl j).trans ((h_cpo us11 rfl j).trans ((h_upo us10 rfl j).trans ((h_cpo us8 rfl j)))))))))).trans (h_cpi us7 a b)).trans ((h_upo us6 rfl j).trans ((h_cpo us4 rfl j).trans ((h_cpo us3 rfl j).trans ((h_cpo us2 rfl j).trans ((h_cpo us1 rfl j)))))), fun j a b => (((h_upo us20 rfl j).trans ((h_upo us18 rfl j).trans ((h_upo us16 rfl j).trans ((h_cpo us14 rfl j).trans ((h_cpo us13 rfl j).trans ((h_cpo us12 rfl j).trans ((h_cpo us11 rfl j).trans ((h_upo us10 rfl j))))))))).trans (h_cpi us8 a b)).trans ((h_cpo us7 rfl j).trans ((h_upo us6 rfl j).trans ((h_cpo us4 rfl j).trans ((h_cpo us3 rfl j).trans ((h_cpo us2 rfl j).trans ((h_cpo us1 rfl j))))))), fun j a b => (((h_upo us20 rfl j).trans ((h_upo us18 rfl j).trans ((h_upo us16 rfl j).trans ((h_cpo us14 rfl j).trans ((h_cpo us13 rfl j).trans ((h_cpo us12 rfl j))))))).trans (h_cpi us11 a b)).trans ((h_upo us10 rfl j).trans ((h_cpo us8 rfl j).trans ((h_cpo us7 rfl j).trans ((h_upo us6 rfl j).trans ((h_cpo us4 rfl j).trans ((h_cpo us3 rfl j).trans ((h_cpo us2 rfl j).trans ((h_cpo us1 rfl j))))))))), fun j a b => (((h_upo us20 rfl j).trans ((h_upo us18 rfl j).trans ((h_upo us16 rfl j)))).trans (h_cpi us14 a b)).trans ((h_cpo us13 rfl j).trans ((h_cpo us12 rfl j).trans ((h_cpo us11 rfl j).trans ((h_upo us10 rfl j).trans ((h_cpo us8 rfl j).trans ((h_cpo us7 rfl j).trans ((h_upo us6 rfl j).trans ((h_cpo us4 rfl j).trans ((h_cpo us3 rfl j).trans ((h_cpo us2 rfl j).trans ((h_cpo us1 rfl j)))))))))))), fun _ => ⟨fun j a b => (((h_upo us20 rfl j).trans ((h_upo us18 rfl j).trans ((h_upo us16 rfl j).trans ((h_cpo us14 rfl j).trans ((h_cpo us13 rfl j)))))).trans (h_cpi us12 a b)).trans ((h_cpo us11 rfl j).trans ((h_upo us10 rfl j).trans ((h_cpo us8 rfl j).trans ((h_cpo us7 rfl j).trans ((h_upo us6 rfl j).trans ((h_cpo us4 rfl j).trans ((h_cpo us3 rfl j).trans ((h_cpo us2 rfl j).trans ((h_cpo us1 rfl j)))))))))), fun j a b => (((h_upo us20 rfl j).trans ((h_upo us18 rfl j).trans ((h_upo us16 rfl j).trans ((h_cpo us14 rfl j))))).trans (h_cpi us13 a b)).trans ((h_cpo us12 rfl j).trans ((h_cpo us11 rfl j).trans ((h_upo us10 rfl j).trans ((h_cpo us8 rfl j).trans ((h_cpo us7 rfl j).trans ((h_upo us6 rfl j).trans ((h_cpo us4 rfl j).trans ((h_cpo us3 rfl j).trans ((h_cpo us2 rfl j).trans ((h_cpo us1 rfl j)))))))))))⟩⟩)
def kf_n_copy_10_36 : List Nat := [10248, 10249, 10250, 12287, 13311, 13314, 15359, 16383, 16386, 18431, 19455, 20479, 21503, 22527, 23551]
set_option maxHeartbeats 100000000 in
set_option maxHeartbeats 100000000 in
theorem n_copy_10_36 {ns : Nat} (σ : h_S) (hI : h_I σ) {Q : Option Value → h_S → Prop} (kk : ∀ (τ : h_S), h_I τ → h_F (k_in kf_n_copy_10_36) τ σ → (c_eq true τ 10 σ 36) → Q none τ) : h_T g_P (g_Y ns) 3 0 [(0, .ref 10), (1, .ref 36)] [] σ Q := by
  have F00 : h_F (k_in kf_n_copy_10_36) σ σ := h_F.rf
  refine h_aload_n (pc' := 1) rfl rfl rfl ?_
  refine h_getR (pc' := 4) rfl rfl rfl rfl rfl ?_
  refine h_iconst (pc' := 5) (x := (Int32.ofInt 0)) rfl rfl rfl ?_
  refine h_aload_n (pc' := 6) rfl rfl rfl ?_
  refine h_getR (pc' := 9) rfl rfl rfl rfl rfl ?_
  refine h_iconst (pc' := 10) (x := (Int32.ofInt 0)) rfl rfl rfl ?_
  refine h_bipush (pc' := 12) (x := (Int32.ofInt 6)) rfl rfl cb_6 ?_
  refine h_acp (pc' := 15) rfl rfl rfl rfl rfl rfl rfl rfl rfl rfl ci_6 (h_fgt (E := fun s => s 98 13 = σ 98 13 ∧ s = h_cp σ 37 11 6) _ (h_I_cp hI (fun _ _ h => h)) (F00.cp (fun _ => rfl)) ⟨rfl, rfl⟩ (fun s1 Is1 Fs1 (es1 : s1 98 13 = σ 98 13 ∧ s1 = h_cp σ 37 11 6) => ?_))
  have us1 := es1.2
  refine h_aload_n (pc' := 16) rfl rfl rfl ?_
  refine h_getR (pc' := 19) rfl rfl rfl rfl rfl ?_
  refine h_iconst (pc' := 20) (x := (Int32.ofInt 0)) rfl rfl rfl ?_
  refine h_aload_n (pc' := 21) rfl rfl rfl ?_
  refine h_getR (pc' := 24) rfl rfl rfl rfl rfl ?_
  refine h_iconst (pc' := 25) (x := (Int32.ofInt 0)) rfl rfl rfl ?_
  refine h_bipush (pc' := 27) (x := (Int32.ofInt 6)) rfl rfl cb_6 ?_
  refine h_acp (pc' := 30) rfl rfl rfl rfl rfl rfl rfl rfl rfl rfl ci_6 (h_fgt (E := fun s => s 98 13 = σ 98 13 ∧ s = h_cp s1 38 12 6) _ (h_I_cp Is1 (fun _ _ h => h)) (Fs1.cp (fun _ => rfl)) ⟨es1.1, rfl⟩ (fun s2 Is2 Fs2 (es2 : s2 98 13 = σ 98 13 ∧ s2 = h_cp s1 38 12 6) => ?_))
  have us2 := es2.2
  clear es1
  refine h_aload_n (pc' := 31) rfl rfl rfl ?_
  refine h_getR (pc' := 34) rfl rfl rfl rfl rfl ?_
  refine h_aload_n (pc' := 35) rfl rfl rfl ?_
  refine h_getR (pc' := 38) rfl rfl rfl rfl rfl ?_
  refine h_call (sp := false) (pc' := 41) (M := [(0, .ref 13), (1, .ref 39)]) rfl rfl rfl rfl rfl rfl rfl rfl ?_
  refine h_aload_n (pc' := 1) rfl rfl rfl ?_
  refine h_getR (pc' := 4) rfl rfl rfl rfl rfl ?_
  refine h_iconst (pc' := 5) (x := (Int32.ofInt 0)) rfl rfl rfl ?_
  refine h_aload_n (pc' := 6) rfl rfl rfl ?_
  refine h_getR (pc' := 9) rfl rfl rfl rfl rfl ?_
  refine h_iconst (pc' := 10) (x := (Int32.ofInt 0)) rfl rfl rfl ?_
  refine h_iconst (pc' := 11) (x := (Int32.ofInt 3)) rfl rfl rfl ?_
  refine h_acp (pc' := 14) rfl rfl rfl rfl rfl rfl rfl rfl rfl rfl ci_3 (h_fgt (E := fun s => s 98 13 = σ 98 13 ∧ s = h_cp s2 40 14 3) _ (h_I_cp Is2 (fun _ _ h => h)) (Fs2.cp (fun _ => rfl)) ⟨es2.1, rfl⟩ (fun s3 Is3 Fs3 (es3 : s3 98 13 = σ 98 13 ∧ s3 = h_cp s2 40 14 3) => ?_))
  have us3 := es3.2
  clear es2
  refine h_aload_n (pc' := 15) rfl rfl rfl ?_
  refine h_getR (pc' := 18) rfl rfl rfl rfl rfl ?_
  refine h_iconst (pc' := 19) (x := (Int32.ofInt 0)) rfl rfl rfl ?_
  refine h_aload_n (pc' := 20) rfl rfl rfl ?_
  refine h_getR (pc' := 23) rfl rfl rfl rfl rfl ?_
  refine h_iconst (pc' := 24) (x := (Int32.ofInt 0)) rfl rfl rfl ?_
  refine h_iconst (pc' := 25) (x := (Int32.ofInt 3)) rfl rfl rfl ?_
  refine h_acp (pc' := 28) rfl rfl rfl rfl rfl rfl rfl rfl rfl rfl ci_3 (h_fgt (E := fun s => s 98 13 = σ 98 13 ∧ s = h_cp s3 41 15 3) _ (h_I_cp Is3 (fun _ _ h => h)) (Fs3.cp (fun _ => rfl)) ⟨es3.1, rfl⟩ (fun s4 Is4 Fs4 (es4 : s4 98 13 = σ 98 13 ∧ s4 = h_cp s3 41 15 3) => ?_))
  have us4 := es4.2
  clear es3
  refine h_aload_n (pc' := 29) rfl rfl rfl ?_
  refine h_aload_n (pc' := 30) rfl rfl rfl ?_
  refine h_getI (pc' := 33) (v := σ 39 2) rfl rfl rfl rfl rfl (Fs4 39 2 rfl) (fun z5 hz5 => ?_)
  have tz5 := tf_39_2 hI
  refine h_put (pc' := 36) rfl rfl rfl rfl rfl rfl hz5 rfl (h_fgt (E := fun s => s 98 13 = σ 98 13 ∧ s = h_up s4 13 2 (σ 39 2)) _ (if_13_2 Is4 (by omega)) (Fs4.up rfl) ⟨es4.1, rfl⟩ (fun s6 Is6 Fs6 (es6 : s6 98 13 = σ 98 13 ∧ s6 = h_up s4 13 2 (σ 39 2)) => ?_))
  clear es4
  have us6 := es6.2
  refine h_vret rfl rfl (h_Kn ?_)
  refine h_aload_n (pc' := 42) rfl rfl rfl ?_
  refine h_getR (pc' := 45) rfl rfl rfl rfl rfl ?_
  refine h_aload_n (pc' := 46) rfl rfl rfl ?_
  refine h_getR (pc' := 49) rfl rfl rfl rfl rfl ?_
  refine h_call (sp := false) (pc' := 52) (M := [(0, .ref 16), (1, .ref 42)]) rfl rfl rfl rfl rfl rfl rfl rfl ?_
  refine h_aload_n (pc' := 1) rfl rfl rfl ?_
  refine h_getR (pc' := 4) rfl rfl rfl rfl rfl ?_
  refine h_iconst (pc' := 5) (x := (Int32.ofInt 0)) rfl rfl rfl ?_
  refine h_aload_n (pc' := 6) rfl rfl rfl ?_
  refine h_getR (pc' := 9) rfl rfl rfl rfl rfl ?_
  refine h_iconst (pc' := 10) (x := (Int32.ofInt 0)) rfl rfl rfl ?_
  refine h_iconst (pc' := 11) (x := (Int32.ofInt 3)) rfl rfl rfl ?_
  refine h_acp (pc' := 14) rfl rfl rfl rfl rfl rfl rfl rfl rfl rfl ci_3 (h_fgt (E := fun s => s 98 13 = σ 98 13 ∧ s = h_cp s6 43 17 3) _ (h_I_cp Is6 (fun _ _ h => h)) (Fs6.cp (fun _ => rfl)) ⟨es6.1, rfl⟩ (fun s7 Is7 Fs7 (es7 : s7 98 13 = σ 98 13 ∧ s7 = h_cp s6 43 17 3) => ?_))
  have us7 := es7.2
  clear es6
  refine h_aload_n (pc' := 15) rfl rfl rfl ?_
  refine h_getR (pc' := 18) rfl rfl rfl rfl rfl ?_
  refine h_iconst (pc' := 19) (x := (Int32.ofInt 0)) rfl rfl rfl ?_
  refine h_aload_n (pc' := 20) rfl rfl rfl ?_
  refine h_getR (pc' := 23) rfl rfl rfl rfl rfl ?_
  refine h_iconst (pc' := 24) (x := (Int32.ofInt 0)) rfl rfl rfl ?_
  refine h_iconst (pc' := 25) (x := (Int32.ofInt 3)) rfl rfl rfl ?_
  refine h_acp (pc' := 28) rfl rfl rfl rfl rfl rfl rfl rfl rfl rfl ci_3 (h_fgt (E := fun s => s 98 13 = σ 98 13 ∧ s = h_cp s7 44 18 3) _ (h_I_cp Is7 (fun _ _ h => h)) (Fs7.cp (fun _ => rfl)) ⟨es7.1, rfl⟩ (fun s8 Is8 Fs8 (es8 : s8 98 13 = σ 98 13 ∧ s8 = h_cp s7 44 18 3) => ?_))
  have us8 := es8.2
  clear es7
  refine h_aload_n (pc' := 29) rfl rfl rfl ?_
  refine h_aload_n (pc' := 30) rfl rfl rfl ?_
  refine h_getI (pc' := 33) (v := σ 42 2) rfl rfl rfl rfl rfl (Fs8 42 2 rfl) (fun z9 hz9 => ?_)
  have tz9 := tf_42_2 hI
  refine h_put (pc' := 36) rfl rfl rfl rfl rfl rfl hz9 rfl (h_fgt (E := fun s => s 98 13 = σ 98 13 ∧ s = h_up s8 16 2 (σ 42 2)) _ (if_16_2 Is8 (by omega)) (Fs8.up rfl) ⟨es8.1, rfl⟩ (fun s10 Is10 Fs10 (es10 : s10 98 13 = σ 98 13 ∧ s10 = h_up s8 16 2 (σ 42 2)) => ?_))
  clear es8
  have us10 := es10.2
  refine h_vret rfl rfl (h_Kn ?_)
  refine h_aload_n (pc' := 53) rfl rfl rfl ?_
  refine h_getR (pc' := 56) rfl rfl rfl rfl rfl ?_
  refine h_iconst (pc' := 57) (x := (Int32.ofInt 0)) rfl rfl rfl ?_
  refine h_aload_n (pc' := 58) rfl rfl rfl ?_
  refine h_getR (pc' := 61) rfl rfl rfl rfl rfl ?_
  refine h_iconst (pc' := 62) (x := (Int32.ofInt 0)) rfl rfl rfl ?_
  refine h_iconst (pc' := 63) (x := (Int32.ofInt 3)) rfl rfl rfl ?_
  refine h_acp (pc' := 66) rfl rfl rfl rfl rfl rfl rfl rfl rfl rfl ci_3 (h_fgt (E := fun s => s 98 13 = σ 98 13 ∧ s = h_cp s10 45 19 3) _ (h_I_cp Is10 (fun _ _ h => h)) (Fs10.cp (fun _ => rfl)) ⟨es10.1, rfl⟩ (fun s11 Is11 Fs11 (es11 : s11 98 13 = σ 98 13 ∧ s11 = h_cp s10 45 19 3) => ?_))
  have us11 := es11.2
  clear es10
  refine h_aload_n (pc' := 67) rfl rfl rfl ?_
  refine h_getR (pc' := 70) rfl rfl rfl rfl rfl ?_
  refine h_iconst (pc' := 71) (x := (Int32.ofInt 0)) rfl rfl rfl ?_
  refine h_aload_n (pc' := 72) rfl rfl rfl ?_
  refine h_getR (pc' := 75) rfl rfl rfl rfl rfl ?_
  refine h_iconst (pc' := 76) (x := (Int32.ofInt 0)) rfl rfl rfl ?_
  refine h_iconst (pc' := 77) (x := (Int32.ofInt 3)) rfl rfl rfl ?_
  refine h_acp (pc' := 80) rfl rfl rfl rfl rfl rfl rfl rfl rfl rfl ci_3 (h_fgt (E := fun s => s 98 13 = σ 98 13 ∧ s = h_cp s11 46 20 3) _ (h_I_cp Is11 (fun _ _ h => h)) (Fs11.cp (fun _ => rfl)) ⟨es11.1, rfl⟩ (fun s12 Is12 Fs12 (es12 : s12 98 13 = σ 98 13 ∧ s12 = h_cp s11 46 20 3) => ?_))
  have us12 := es12.2
  clear es11
  refine h_aload_n (pc' := 81) rfl rfl rfl ?_
  refine h_getR (pc' := 84) rfl rfl rfl rfl rfl ?_
  refine h_iconst (pc' := 85) (x := (Int32.ofInt 0)) rfl rfl rfl ?_
  refine h_aload_n (pc' := 86) rfl rfl rfl ?_
  refine h_getR (pc' := 89) rfl rfl rfl rfl rfl ?_
  refine h_iconst (pc' := 90) (x := (Int32.ofInt 0)) rfl rfl rfl ?_
  refine h_iconst (pc' := 91) (x := (Int32.ofInt 3)) rfl rfl rfl ?_
  refine h_acp (pc' := 94) rfl rfl rfl rfl rfl rfl rfl rfl rfl rfl ci_3 (h_fgt (E := fun s => s 98 13 = σ 98 13 ∧ s = h_cp s12 47 21 3) _ (h_I_cp Is12 (fun _ _ h => h)) (Fs12.cp (fun _ => rfl)) ⟨es12.1, rfl⟩ (fun s13 Is13 Fs13 (es13 : s13 98 13 = σ 98 13 ∧ s13 = h_cp s12 47 21 3) => ?_))
  have us13 := es13.2
  clear es12
  refine h_aload_n (pc' := 95) rfl rfl rfl ?_
  refine h_getR (pc' := 98) rfl rfl rfl rfl rfl ?_
  refine h_iconst (pc' := 99) (x := (Int32.ofInt 0)) rfl rfl rfl ?_
  refine h_aload_n (pc' := 100) rfl rfl rfl ?_
  refine h_getR (pc' := 103) rfl rfl rfl rfl rfl ?_
  refine h_iconst (pc' := 104) (x := (Int32.ofInt 0)) rfl rfl rfl ?_
  refine h_bipush (pc' := 106) (x := (Int32.ofInt 8)) rfl rfl cb_8 ?_
  refine h_acp (pc' := 109) rfl rfl rfl rfl rfl rfl rfl rfl rfl rfl ci_8 (h_fgt (E := fun s => s 98 13 = σ 98 13 ∧ s = h_cp s13 48 22 8) _ (h_I_cp Is13 (fun _ _ h => h)) (Fs13.cp (fun _ => rfl)) ⟨es13.1, rfl⟩ (fun s14 Is14 Fs14 (es14 : s14 98 13 = σ 98 13 ∧ s14 = h_cp s13 48 22 8) => ?_))
  have us14 := es14.2
  clear es13
  refine h_aload_n (pc' := 110) rfl rfl rfl ?_
  refine h_aload_n (pc' := 111) rfl rfl rfl ?_
  refine h_getI (pc' := 114) (v := σ 36 8) rfl rfl rfl rfl rfl (Fs14 36 8 rfl) (fun z15 hz15 => ?_)
  have tz15 := tf_36_8 hI
  refine h_put (pc' := 117) rfl rfl rfl rfl rfl rfl hz15 rfl (h_fgt (E := fun s => s 98 13 = σ 98 13 ∧ s = h_up s14 10 8 (σ 36 8)) _ (if_10_8 Is14 (by omega)) (Fs14.up rfl) ⟨es14.1, rfl⟩ (fun s16 Is16 Fs16 (es16 : s16 98 13 = σ 98 13 ∧ s16 = h_up s14 10 8 (σ 36 8)) => ?_))
  clear es14
  have us16 := es16.2
  refine h_aload_n (pc' := 118) rfl rfl rfl ?_
  refine h_aload_n (pc' := 119) rfl rfl rfl ?_
  refine h_getI (pc' := 122) (v := σ 36 9) rfl rfl rfl rfl rfl (Fs16 36 9 rfl) (fun z17 hz17 => ?_)
  have tz17 := tf_36_9 hI
  refine h_put (pc' := 125) rfl rfl rfl rfl rfl rfl hz17 rfl (h_fgt (E := fun s => s 98 13 = σ 98 13 ∧ s = h_up s16 10 9 (σ 36 9)) _ (if_10_9 Is16 (by omega)) (Fs16.up rfl) ⟨es16.1, rfl⟩ (fun s18 Is18 Fs18 (es18 : s18 98 13 = σ 98 13 ∧ s18 = h_up s16 10 9 (σ 36 9)) => ?_))
  clear es16
  have us18 := es18.2
  refine h_aload_n (pc' := 126) rfl rfl rfl ?_
  refine h_aload_n (pc' := 127) rfl rfl rfl ?_
  refine h_getI (pc' := 130) (v := σ 36 10) rfl rfl rfl rfl rfl (Fs18 36 10 rfl) (fun z19 hz19 => ?_)
  have tz19 := tf_36_10 hI
  refine h_put (pc' := 133) rfl rfl rfl rfl rfl rfl hz19 rfl (h_fgt (E := fun s => s 98 13 = σ 98 13 ∧ s = h_up s18 10 10 (σ 36 10)) _ (if_10_10 Is18 (by omega)) (Fs18.up rfl) ⟨es18.1, rfl⟩ (fun s20 Is20 Fs20 (es20 : s20 98 13 = σ 98 13 ∧ s20 = h_up s18 10 10 (σ 36 10)) => ?_))
  clear es18
  have us20 := es20.2
  exact h_vret rfl rfl (kk _ Is20 Fs20 ⟨⟨((h_upd us20 (by decide)).trans ((h_upd us18 (by decide)))).trans (h_upv us16), ((h_upd us20 (by decide))).trans (h_upv us18), h_upv us20, ((h_upo us20 rfl 2).trans ((h_upo us18 rfl 2).trans ((h_upo us16 rfl 2).trans ((h_cpo us14 rfl 2).trans ((h_cpo us13 rfl 2).trans ((h_cpo us12 rfl 2).trans ((h_cpo us11 rfl 2).trans ((h_upo us10 rfl 2).trans ((h_cpo us8 rfl 2).trans ((h_cpo us7 rfl 2))))))))))).trans (h_upv us6), ((h_upo us20 rfl 2).trans ((h_upo us18 rfl 2).trans ((h_upo us16 rfl 2).trans ((h_cpo us14 rfl 2).trans ((h_cpo us13 rfl 2).trans ((h_cpo us12 rfl 2).trans ((h_cpo us11 rfl 2)))))))).trans (h_upv us10)⟩, fun j a b => ((h_upo us20 rfl j).trans ((h_upo us18 rfl j).trans ((h_upo us16 rfl j).trans ((h_cpo us14 rfl j).trans ((h_cpo us13 rfl j).trans ((h_cpo us12 rfl j).trans ((h_cpo us11 rfl j).trans ((h_upo us10 rfl j).trans ((h_cpo us8 rfl j).trans ((h_cpo us7 rfl j).trans ((h_upo us6 rfl j).trans ((h_cpo us4 rfl j).trans ((h_cpo us3 rfl j).trans ((h_cpo us2 rfl j))))))))))))))).trans (h_cpi us1 a b), fun j a b => (((h_upo us20 rfl j).trans ((h_upo us18 rfl j).trans ((h_upo us16 rfl j).trans ((h_cpo us14 rfl j).trans ((h_cpo us13 rfl j).trans ((h_cpo us12 rfl j).trans ((h_cpo us11 rfl j).trans ((h_upo us10 rfl j).trans ((h_cpo us8 rfl j).trans ((h_cpo us7 rfl j).trans ((h_upo us6 rfl j).trans ((h_cpo us4 rfl j).trans ((h_cpo us3 rfl j)))))))))))))).trans (h_cpi us2 a b)).trans ((h_cpo us1 rfl j)), fun j a b => (((h_upo us20 rfl j).trans ((h_upo us18 rfl j).trans ((h_upo us16 rfl j).trans ((h_cpo us14 rfl j).trans ((h_cpo us13 rfl j).trans ((h_cpo us12 rfl j).trans ((h_cpo us11 rfl j).trans ((h_upo us10 rfl j).trans ((h_cpo us8 rfl j).trans ((h_cpo us7 rfl j).trans ((h_upo us6 rfl j).trans ((h_cpo us4 rfl j))))))))))))).trans (h_cpi us3 a b)).trans ((h_cpo us2 rfl j).trans ((h_cpo us1 rfl j))), fun j a b => (((h_upo us20 rfl j).trans ((h_upo us18 rfl j).trans ((h_upo us16 rfl j).trans ((h_cpo us14 rfl j).trans ((h_cpo us13 rfl j).trans ((h_cpo us12 rfl j).trans ((h_cpo us11 rfl j).trans ((h_upo us10 rfl j).trans ((h_cpo us8 rfl j).trans ((h_cpo us7 rfl j).trans ((h_upo us6 rfl j)))))))))))).trans (h_cpi us4 a b)).trans ((h_cpo us3 rfl j).trans ((h_cpo us2 rfl j).trans ((h_cpo us1 rfl j)))), fun j a b => (((h_upo us20 rfl j).trans ((h_upo us18 rfl j).trans ((h_upo us16 rfl j).trans ((h_cpo us14 rfl j).trans ((h_cpo us13 rfl j).trans ((h_cpo us12 rfl j).trans ((h_cpo us11 rfl j).trans ((h_upo us10 rfl j).trans ((h_cpo us8 rfl j)))))))))).trans (h_cpi us7 a b)).trans ((h_upo us6 rfl j).trans ((h_cpo us4 rfl j).trans ((h_cpo us3 rfl j).trans ((h_cpo us2 rfl j).trans ((h_cpo us1 rfl j)))))), fun j a b => (((h_upo us20 rfl j).trans ((h_upo us18 rfl j).trans ((h_upo us16 rfl j).trans ((h_cpo us14 rfl j).trans ((h_cpo us13 rfl j).trans ((h_cpo us12 rfl j).trans ((h_cpo us11 rfl j).trans ((h_upo us10 rfl j))))))))).trans (h_cpi us8 a b)).trans ((h_cpo us7 rfl j).trans ((h_upo us6 rfl j).trans ((h_cpo us4 rfl j).trans ((h_cpo us3 rfl j).trans ((h_cpo us2 rfl j).trans ((h_cpo us1 rfl j))))))), fun j a b => (((h_upo us20 rfl j).trans ((h_upo us18 rfl j).trans ((h_upo us16 rfl j).trans ((h_cpo us14 rfl j).trans ((h_cpo us13 rfl j).trans ((h_cpo us12 rfl j))))))).trans (h_cpi us11 a b)).trans ((h_upo us10 rfl j).trans ((h_cpo us8 rfl j).trans ((h_cpo us7 rfl j).trans ((h_upo us6 rfl j).trans ((h_cpo us4 rfl j).trans ((h_cpo us3 rfl j).trans ((h_cpo us2 rfl j).trans ((h_cpo us1 rfl j))))))))), fun j a b => (((h_upo us20 rfl j).trans ((h_upo us18 rfl j).trans ((h_upo us16 rfl j)))).trans (h_cpi us14 a b)).trans ((h_cpo us13 rfl j).trans ((h_cpo us12 rfl j).trans ((h_cpo us11 rfl j).trans ((h_upo us10 rfl j).trans ((h_cpo us8 rfl j).trans ((h_cpo us7 rfl j).trans ((h_upo us6 rfl j).trans ((h_cpo us4 rfl j).trans ((h_cpo us3 rfl j).trans ((h_cpo us2 rfl j).trans ((h_cpo us1 rfl j)))))))))))), fun _ => ⟨fun j a b => (((h_upo us20 rfl j).trans ((h_upo us18 rfl j).trans ((h_upo us16 rfl j).trans ((h_cpo us14 rfl j).trans ((h_cpo us13 rfl j)))))).trans (h_cpi us12 a b)).trans ((h_cpo us11 rfl j).trans ((h_upo us10 rfl j).trans ((h_cpo us8 rfl j).trans ((h_cpo us7 rfl j).trans ((h_upo us6 rfl j).trans ((h_cpo us4 rfl j).trans ((h_cpo us3 rfl j).trans ((h_cpo us2 rfl j).trans ((h_cpo us1 rfl j)))))))))), fun j a b => (((h_upo us20 rfl j).trans ((h_upo us18 rfl j).trans ((h_upo us16 rfl j).trans ((h_cpo us14 rfl j))))).trans (h_cpi us13 a b)).trans ((h_cpo us12 rfl j).trans ((h_cpo us11 rfl j).trans ((h_upo us10 rfl j).trans ((h_cpo us8 rfl j).trans ((h_cpo us7 rfl j).trans ((h_upo us6 rfl j).trans ((h_cpo us4 rfl j).trans ((h_cpo us3 rfl j).trans ((h_cpo us2 rfl j).trans ((h_cpo us1 rfl j)))))))))))⟩⟩)
def kf_n_copy_10_49 : List Nat := [10248, 10249, 10250, 12287, 13311, 13314, 15359, 16383, 16386, 18431, 19455, 20479, 21503, 22527, 23551]
set_option maxHeartbeats 100000000 in
set_option maxHeartbeats 100000000 in
theorem n_copy_10_49 {ns : Nat} (σ : h_S) (hI : h_I σ) {Q : Option Value → h_S → Prop} (kk : ∀ (τ : h_S), h_I τ → h_F (k_in kf_n_copy_10_49) τ σ → (c_eq true τ 10 σ 49) → Q none τ) : h_T g_P (g_Y ns) 3 0 [(0, .ref 10), (1, .ref 49)] [] σ Q := by
  have F00 : h_F (k_in kf_n_copy_10_49) σ σ := h_F.rf
  refine h_aload_n (pc' := 1) rfl rfl rfl ?_
  refine h_getR (pc' := 4) rfl rfl rfl rfl rfl ?_
  refine h_iconst (pc' := 5) (x := (Int32.ofInt 0)) rfl rfl rfl ?_
  refine h_aload_n (pc' := 6) rfl rfl rfl ?_
  refine h_getR (pc' := 9) rfl rfl rfl rfl rfl ?_
  refine h_iconst (pc' := 10) (x := (Int32.ofInt 0)) rfl rfl rfl ?_
  refine h_bipush (pc' := 12) (x := (Int32.ofInt 6)) rfl rfl cb_6 ?_
  refine h_acp (pc' := 15) rfl rfl rfl rfl rfl rfl rfl rfl rfl rfl ci_6 (h_fgt (E := fun s => s 98 13 = σ 98 13 ∧ s = h_cp σ 50 11 6) _ (h_I_cp hI (fun _ _ h => h)) (F00.cp (fun _ => rfl)) ⟨rfl, rfl⟩ (fun s1 Is1 Fs1 (es1 : s1 98 13 = σ 98 13 ∧ s1 = h_cp σ 50 11 6) => ?_))
  have us1 := es1.2
  refine h_aload_n (pc' := 16) rfl rfl rfl ?_
  refine h_getR (pc' := 19) rfl rfl rfl rfl rfl ?_
  refine h_iconst (pc' := 20) (x := (Int32.ofInt 0)) rfl rfl rfl ?_
  refine h_aload_n (pc' := 21) rfl rfl rfl ?_
  refine h_getR (pc' := 24) rfl rfl rfl rfl rfl ?_
  refine h_iconst (pc' := 25) (x := (Int32.ofInt 0)) rfl rfl rfl ?_
  refine h_bipush (pc' := 27) (x := (Int32.ofInt 6)) rfl rfl cb_6 ?_
  refine h_acp (pc' := 30) rfl rfl rfl rfl rfl rfl rfl rfl rfl rfl ci_6 (h_fgt (E := fun s => s 98 13 = σ 98 13 ∧ s = h_cp s1 51 12 6) _ (h_I_cp Is1 (fun _ _ h => h)) (Fs1.cp (fun _ => rfl)) ⟨es1.1, rfl⟩ (fun s2 Is2 Fs2 (es2 : s2 98 13 = σ 98 13 ∧ s2 = h_cp s1 51 12 6) => ?_))
  have us2 := es2.2
  clear es1
  refine h_aload_n (pc' := 31) rfl rfl rfl ?_
  refine h_getR (pc' := 34) rfl rfl rfl rfl rfl ?_
  refine h_aload_n (pc' := 35) rfl rfl rfl ?_
  refine h_getR (pc' := 38) rfl rfl rfl rfl rfl ?_
  refine h_call (sp := false) (pc' := 41) (M := [(0, .ref 13), (1, .ref 52)]) rfl rfl rfl rfl rfl rfl rfl rfl ?_
  refine h_aload_n (pc' := 1) rfl rfl rfl ?_
  refine h_getR (pc' := 4) rfl rfl rfl rfl rfl ?_
  refine h_iconst (pc' := 5) (x := (Int32.ofInt 0)) rfl rfl rfl ?_
  refine h_aload_n (pc' := 6) rfl rfl rfl ?_
  refine h_getR (pc' := 9) rfl rfl rfl rfl rfl ?_
  refine h_iconst (pc' := 10) (x := (Int32.ofInt 0)) rfl rfl rfl ?_
  refine h_iconst (pc' := 11) (x := (Int32.ofInt 3)) rfl rfl rfl ?_
  refine h_acp (pc' := 14) rfl rfl rfl rfl rfl rfl rfl rfl rfl rfl ci_3 (h_fgt (E := fun s => s 98 13 = σ 98 13 ∧ s = h_cp s2 53 14 3) _ (h_I_cp Is2 (fun _ _ h => h)) (Fs2.cp (fun _ => rfl)) ⟨es2.1, rfl⟩ (fun s3 Is3 Fs3 (es3 : s3 98 13 = σ 98 13 ∧ s3 = h_cp s2 53 14 3) => ?_))
  have us3 := es3.2
  clear es2
  refine h_aload_n (pc' := 15) rfl rfl rfl ?_
  refine h_getR (pc' := 18) rfl rfl rfl rfl rfl ?_
  refine h_iconst (pc' := 19) (x := (Int32.ofInt 0)) rfl rfl rfl ?_
  refine h_aload_n (pc' := 20) rfl rfl rfl ?_
  refine h_getR (pc' := 23) rfl rfl rfl rfl rfl ?_
  refine h_iconst (pc' := 24) (x := (Int32.ofInt 0)) rfl rfl rfl ?_
  refine h_iconst (pc' := 25) (x := (Int32.ofInt 3)) rfl rfl rfl ?_
  refine h_acp (pc' := 28) rfl rfl rfl rfl rfl rfl rfl rfl rfl rfl ci_3 (h_fgt (E := fun s => s 98 13 = σ 98 13 ∧ s = h_cp s3 54 15 3) _ (h_I_cp Is3 (fun _ _ h => h)) (Fs3.cp (fun _ => rfl)) ⟨es3.1, rfl⟩ (fun s4 Is4 Fs4 (es4 : s4 98 13 = σ 98 13 ∧ s4 = h_cp s3 54 15 3) => ?_))
  have us4 := es4.2
  clear es3
  refine h_aload_n (pc' := 29) rfl rfl rfl ?_
  refine h_aload_n (pc' := 30) rfl rfl rfl ?_
  refine h_getI (pc' := 33) (v := σ 52 2) rfl rfl rfl rfl rfl (Fs4 52 2 rfl) (fun z5 hz5 => ?_)
  have tz5 := tf_52_2 hI
  refine h_put (pc' := 36) rfl rfl rfl rfl rfl rfl hz5 rfl (h_fgt (E := fun s => s 98 13 = σ 98 13 ∧ s = h_up s4 13 2 (σ 52 2)) _ (if_13_2 Is4 (by omega)) (Fs4.up rfl) ⟨es4.1, rfl⟩ (fun s6 Is6 Fs6 (es6 : s6 98 13 = σ 98 13 ∧ s6 = h_up s4 13 2 (σ 52 2)) => ?_))
  clear es4
  have us6 := es6.2
  refine h_vret rfl rfl (h_Kn ?_)
  refine h_aload_n (pc' := 42) rfl rfl rfl ?_
  refine h_getR (pc' := 45) rfl rfl rfl rfl rfl ?_
  refine h_aload_n (pc' := 46) rfl rfl rfl ?_
  refine h_getR (pc' := 49) rfl rfl rfl rfl rfl ?_
  refine h_call (sp := false) (pc' := 52) (M := [(0, .ref 16), (1, .ref 55)]) rfl rfl rfl rfl rfl rfl rfl rfl ?_
  refine h_aload_n (pc' := 1) rfl rfl rfl ?_
  refine h_getR (pc' := 4) rfl rfl rfl rfl rfl ?_
  refine h_iconst (pc' := 5) (x := (Int32.ofInt 0)) rfl rfl rfl ?_
  refine h_aload_n (pc' := 6) rfl rfl rfl ?_
  refine h_getR (pc' := 9) rfl rfl rfl rfl rfl ?_
  refine h_iconst (pc' := 10) (x := (Int32.ofInt 0)) rfl rfl rfl ?_
  refine h_iconst (pc' := 11) (x := (Int32.ofInt 3)) rfl rfl rfl ?_
  refine h_acp (pc' := 14) rfl rfl rfl rfl rfl rfl rfl rfl rfl rfl ci_3 (h_fgt (E := fun s => s 98 13 = σ 98 13 ∧ s = h_cp s6 56 17 3) _ (h_I_cp Is6 (fun _ _ h => h)) (Fs6.cp (fun _ => rfl)) ⟨es6.1, rfl⟩ (fun s7 Is7 Fs7 (es7 : s7 98 13 = σ 98 13 ∧ s7 = h_cp s6 56 17 3) => ?_))
  have us7 := es7.2
  clear es6
  refine h_aload_n (pc' := 15) rfl rfl rfl ?_
  refine h_getR (pc' := 18) rfl rfl rfl rfl rfl ?_
  refine h_iconst (pc' := 19) (x := (Int32.ofInt 0)) rfl rfl rfl ?_
  refine h_aload_n (pc' := 20) rfl rfl rfl ?_
  refine h_getR (pc' := 23) rfl rfl rfl rfl rfl ?_
  refine h_iconst (pc' := 24) (x := (Int32.ofInt 0)) rfl rfl rfl ?_
  refine h_iconst (pc' := 25) (x := (Int32.ofInt 3)) rfl rfl rfl ?_
  refine h_acp (pc' := 28) rfl rfl rfl rfl rfl rfl rfl rfl rfl rfl ci_3 (h_fgt (E := fun s => s 98 13 = σ 98 13 ∧ s = h_cp s7 57 18 3) _ (h_I_cp Is7 (fun _ _ h => h)) (Fs7.cp (fun _ => rfl)) ⟨es7.1, rfl⟩ (fun s8 Is8 Fs8 (es8 : s8 98 13 = σ 98 13 ∧ s8 = h_cp s7 57 18 3) => ?_))
  have us8 := es8.2
  clear es7
  refine h_aload_n (pc' := 29) rfl rfl rfl ?_
  refine h_aload_n (pc' := 30) rfl rfl rfl ?_
  refine h_getI (pc' := 33) (v := σ 55 2) rfl rfl rfl rfl rfl (Fs8 55 2 rfl) (fun z9 hz9 => ?_)
  have tz9 := tf_55_2 hI
  refine h_put (pc' := 36) rfl rfl rfl rfl rfl rfl hz9 rfl (h_fgt (E := fun s => s 98 13 = σ 98 13 ∧ s = h_up s8 16 2 (σ 55 2)) _ (if_16_2 Is8 (by omega)) (Fs8.up rfl) ⟨es8.1, rfl⟩ (fun s10 Is10 Fs10 (es10 : s10 98 13 = σ 98 13 ∧ s10 = h_up s8 16 2 (σ 55 2)) => ?_))
  clear es8
  have us10 := es10.2
  refine h_vret rfl rfl (h_Kn ?_)
  refine h_aload_n (pc' := 53) rfl rfl rfl ?_
  refine h_getR (pc' := 56) rfl rfl rfl rfl rfl ?_
  refine h_iconst (pc' := 57) (x := (Int32.ofInt 0)) rfl rfl rfl ?_
  refine h_aload_n (pc' := 58) rfl rfl rfl ?_
  refine h_getR (pc' := 61) rfl rfl rfl rfl rfl ?_
  refine h_iconst (pc' := 62) (x := (Int32.ofInt 0)) rfl rfl rfl ?_
  refine h_iconst (pc' := 63) (x := (Int32.ofInt 3)) rfl rfl rfl ?_
  refine h_acp (pc' := 66) rfl rfl rfl rfl rfl rfl rfl rfl rfl rfl ci_3 (h_fgt (E := fun s => s 98 13 = σ 98 13 ∧ s = h_cp s10 58 19 3) _ (h_I_cp Is10 (fun _ _ h => h)) (Fs10.cp (fun _ => rfl)) ⟨es10.1, rfl⟩ (fun s11 Is11 Fs11 (es11 : s11 98 13 = σ 98 13 ∧ s11 = h_cp s10 58 19 3) => ?_))
  have us11 := es11.2
  clear es10
  refine h_aload_n (pc' := 67) rfl rfl rfl ?_
  refine h_getR (pc' := 70) rfl rfl rfl rfl rfl ?_
  refine h_iconst (pc' := 71) (x := (Int32.ofInt 0)) rfl rfl rfl ?_
  refine h_aload_n (pc' := 72) rfl rfl rfl ?_
  refine h_getR (pc' := 75) rfl rfl rfl rfl rfl ?_
  refine h_iconst (pc' := 76) (x := (Int32.ofInt 0)) rfl rfl rfl ?_
  refine h_iconst (pc' := 77) (x := (Int32.ofInt 3)) rfl rfl rfl ?_
  refine h_acp (pc' := 80) rfl rfl rfl rfl rfl rfl rfl rfl rfl rfl ci_3 (h_fgt (E := fun s => s 98 13 = σ 98 13 ∧ s = h_cp s11 59 20 3) _ (h_I_cp Is11 (fun _ _ h => h)) (Fs11.cp (fun _ => rfl)) ⟨es11.1, rfl⟩ (fun s12 Is12 Fs12 (es12 : s12 98 13 = σ 98 13 ∧ s12 = h_cp s11 59 20 3) => ?_))
  have us12 := es12.2
  clear es11
  refine h_aload_n (pc' := 81) rfl rfl rfl ?_
  refine h_getR (pc' := 84) rfl rfl rfl rfl rfl ?_
  refine h_iconst (pc' := 85) (x := (Int32.ofInt 0)) rfl rfl rfl ?_
  refine h_aload_n (pc' := 86) rfl rfl rfl ?_
  refine h_getR (pc' := 89) rfl rfl rfl rfl rfl ?_
  refine h_iconst (pc' := 90) (x := (Int32.ofInt 0)) rfl rfl rfl ?_
  refine h_iconst (pc' := 91) (x := (Int32.ofInt 3)) rfl rfl rfl ?_
  refine h_acp (pc' := 94) rfl rfl rfl rfl rfl rfl rfl rfl rfl rfl ci_3 (h_fgt (E := fun s => s 98 13 = σ 98 13 ∧ s = h_cp s12 60 21 3) _ (h_I_cp Is12 (fun _ _ h => h)) (Fs12.cp (fun _ => rfl)) ⟨es12.1, rfl⟩ (fun s13 Is13 Fs13 (es13 : s13 98 13 = σ 98 13 ∧ s13 = h_cp s12 60 21 3) => ?_))
  have us13 := es13.2
  clear es12
  refine h_aload_n (pc' := 95) rfl rfl rfl ?_
  refine h_getR (pc' := 98) rfl rfl rfl rfl rfl ?_
  refine h_iconst (pc' := 99) (x := (Int32.ofInt 0)) rfl rfl rfl ?_
  refine h_aload_n (pc' := 100) rfl rfl rfl ?_
  refine h_getR (pc' := 103) rfl rfl rfl rfl rfl ?_
  refine h_iconst (pc' := 104) (x := (Int32.ofInt 0)) rfl rfl rfl ?_
  refine h_bipush (pc' := 106) (x := (Int32.ofInt 8)) rfl rfl cb_8 ?_
  refine h_acp (pc' := 109) rfl rfl rfl rfl rfl rfl rfl rfl rfl rfl ci_8 (h_fgt (E := fun s => s 98 13 = σ 98 13 ∧ s = h_cp s13 61 22 8) _ (h_I_cp Is13 (fun _ _ h => h)) (Fs13.cp (fun _ => rfl)) ⟨es13.1, rfl⟩ (fun s14 Is14 Fs14 (es14 : s14 98 13 = σ 98 13 ∧ s14 = h_cp s13 61 22 8) => ?_))
  have us14 := es14.2
  clear es13
  refine h_aload_n (pc' := 110) rfl rfl rfl ?_
  refine h_aload_n (pc' := 111) rfl rfl rfl ?_
  refine h_getI (pc' := 114) (v := σ 49 8) rfl rfl rfl rfl rfl (Fs14 49 8 rfl) (fun z15 hz15 => ?_)
  have tz15 := tf_49_8 hI
  refine h_put (pc' := 117) rfl rfl rfl rfl rfl rfl hz15 rfl (h_fgt (E := fun s => s 98 13 = σ 98 13 ∧ s = h_up s14 10 8 (σ 49 8)) _ (if_10_8 Is14 (by omega)) (Fs14.up rfl) ⟨es14.1, rfl⟩ (fun s16 Is16 Fs16 (es16 : s16 98 13 = σ 98 13 ∧ s16 = h_up s14 10 8 (σ 49 8)) => ?_))
  clear es14
  have us16 := es16.2
  refine h_aload_n (pc' := 118) rfl rfl rfl ?_
  refine h_aload_n (pc' := 119) rfl rfl rfl ?_
  refine h_getI (pc' := 122) (v := σ 49 9) rfl rfl rfl rfl rfl (Fs16 49 9 rfl) (fun z17 hz17 => ?_)
  have tz17 := tf_49_9 hI
  refine h_put (pc' := 125) rfl rfl rfl rfl rfl rfl hz17 rfl (h_fgt (E := fun s => s 98 13 = σ 98 13 ∧ s = h_up s16 10 9 (σ 49 9)) _ (if_10_9 Is16 (by omega)) (Fs16.up rfl) ⟨es16.1, rfl⟩ (fun s18 Is18 Fs18 (es18 : s18 98 13 = σ 98 13 ∧ s18 = h_up s16 10 9 (σ 49 9)) => ?_))
  clear es16
  have us18 := es18.2
  refine h_aload_n (pc' := 126) rfl rfl rfl ?_
  refine h_aload_n (pc' := 127) rfl rfl rfl ?_
  refine h_getI (pc' := 130) (v := σ 49 10) rfl rfl rfl rfl rfl (Fs18 49 10 rfl) (fun z19 hz19 => ?_)
  have tz19 := tf_49_10 hI
  refine h_put (pc' := 133) rfl rfl rfl rfl rfl rfl hz19 rfl (h_fgt (E := fun s => s 98 13 = σ 98 13 ∧ s = h_up s18 10 10 (σ 49 10)) _ (if_10_10 Is18 (by omega)) (Fs18.up rfl) ⟨es18.1, rfl⟩ (fun s20 Is20 Fs20 (es20 : s20 98 13 = σ 98 13 ∧ s20 = h_up s18 10 10 (σ 49 10)) => ?_))
  clear es18
  have us20 := es20.2
  exact h_vret rfl rfl (kk _ Is20 Fs20 ⟨⟨((h_upd us20 (by decide)).trans ((h_upd us18 (by decide)))).trans (h_upv us16), ((h_upd us20 (by decide))).trans (h_upv us18), h_upv us20, ((h_upo us20 rfl 2).trans ((h_upo us18 rfl 2).trans ((h_upo us16 rfl 2).trans ((h_cpo us14 rfl 2).trans ((h_cpo us13 rfl 2).trans ((h_cpo us12 rfl 2).trans ((h_cpo us11 rfl 2).trans ((h_upo us10 rfl 2).trans ((h_cpo us8 rfl 2).trans ((h_cpo us7 rfl 2))))))))))).trans (h_upv us6), ((h_upo us20 rfl 2).trans ((h_upo us18 rfl 2).trans ((h_upo us16 rfl 2).trans ((h_cpo us14 rfl 2).trans ((h_cpo us13 rfl 2).trans ((h_cpo us12 rfl 2).trans ((h_cpo us11 rfl 2)))))))).trans (h_upv us10)⟩, fun j a b => ((h_upo us20 rfl j).trans ((h_upo us18 rfl j).trans ((h_upo us16 rfl j).trans ((h_cpo us14 rfl j).trans ((h_cpo us13 rfl j).trans ((h_cpo us12 rfl j).trans ((h_cpo us11 rfl j).trans ((h_upo us10 rfl j).trans ((h_cpo us8 rfl j).trans ((h_cpo us7 rfl j).trans ((h_upo us6 rfl j).trans ((h_cpo us4 rfl j).trans ((h_cpo us3 rfl j).trans ((h_cpo us2 rfl j))))))))))))))).trans (h_cpi us1 a b), fun j a b => (((h_upo us20 rfl j).trans ((h_upo us18 rfl j).trans ((h_upo us16 rfl j).trans ((h_cpo us14 rfl j).trans ((h_cpo us13 rfl j).trans ((h_cpo us12 rfl j).trans ((h_cpo us11 rfl j).trans ((h_upo us10 rfl j).trans ((h_cpo us8 rfl j).trans ((h_cpo us7 rfl j).trans ((h_upo us6 rfl j).trans ((h_cpo us4 rfl j).trans ((h_cpo us3 rfl j)))))))))))))).trans (h_cpi us2 a b)).trans ((h_cpo us1 rfl j)), fun j a b => (((h_upo us20 rfl j).trans ((h_upo us18 rfl j).trans ((h_upo us16 rfl j).trans ((h_cpo us14 rfl j).trans ((h_cpo us13 rfl j).trans ((h_cpo us12 rfl j).trans ((h_cpo us11 rfl j).trans ((h_upo us10 rfl j).trans ((h_cpo us8 rfl j).trans ((h_cpo us7 rfl j).trans ((h_upo us6 rfl j).trans ((h_cpo us4 rfl j))))))))))))).trans (h_cpi us3 a b)).trans ((h_cpo us2 rfl j).trans ((h_cpo us1 rfl j))), fun j a b => (((h_upo us20 rfl j).trans ((h_upo us18 rfl j).trans ((h_upo us16 rfl j).trans ((h_cpo us14 rfl j).trans ((h_cpo us13 rfl j).trans ((h_cpo us12 rfl j).trans ((h_cpo us11 rfl j).trans ((h_upo us10 rfl j).trans ((h_cpo us8 rfl j).trans ((h_cpo us7 rfl j).trans ((h_upo us6 rfl j)))))))))))).trans (h_cpi us4 a b)).trans ((h_cpo us3 rfl j).trans ((h_cpo us2 rfl j).trans ((h_cpo us1 rfl j)))), fun j a b => (((h_upo us20 rfl j).trans ((h_upo us18 rfl j).trans ((h_upo us16 rfl j).trans ((h_cpo us14 rfl j).trans ((h_cpo us13 rfl j).trans ((h_cpo us12 rfl j).trans ((h_cpo us11 rfl j).trans ((h_upo us10 rfl j).trans ((h_cpo us8 rfl j)))))))))).trans (h_cpi us7 a b)).trans ((h_upo us6 rfl j).trans ((h_cpo us4 rfl j).trans ((h_cpo us3 rfl j).trans ((h_cpo us2 rfl j).trans ((h_cpo us1 rfl j)))))), fun j a b => (((h_upo us20 rfl j).trans ((h_upo us18 rfl j).trans ((h_upo us16 rfl j).trans ((h_cpo us14 rfl j).trans ((h_cpo us13 rfl j).trans ((h_cpo us12 rfl j).trans ((h_cpo us11 rfl j).trans ((h_upo us10 rfl j))))))))).trans (h_cpi us8 a b)).trans ((h_cpo us7 rfl j).trans ((h_upo us6 rfl j).trans ((h_cpo us4 rfl j).trans ((h_cpo us3 rfl j).trans ((h_cpo us2 rfl j).trans ((h_cpo us1 rfl j))))))), fun j a b => (((h_upo us20 rfl j).trans ((h_upo us18 rfl j).trans ((h_upo us16 rfl j).trans ((h_cpo us14 rfl j).trans ((h_cpo us13 rfl j).trans ((h_cpo us12 rfl j))))))).trans (h_cpi us11 a b)).trans ((h_upo us10 rfl j).trans ((h_cpo us8 rfl j).trans ((h_cpo us7 rfl j).trans ((h_upo us6 rfl j).trans ((h_cpo us4 rfl j).trans ((h_cpo us3 rfl j).trans ((h_cpo us2 rfl j).trans ((h_cpo us1 rfl j))))))))), fun j a b => (((h_upo us20 rfl j).trans ((h_upo us18 rfl j).trans ((h_upo us16 rfl j)))).trans (h_cpi us14 a b)).trans ((h_cpo us13 rfl j).trans ((h_cpo us12 rfl j).trans ((h_cpo us11 rfl j).trans ((h_upo us10 rfl j).trans ((h_cpo us8 rfl j).trans ((h_cpo us7 rfl j).trans ((h_upo us6 rfl j).trans ((h_cpo us4 rfl j).trans ((h_cpo us3 rfl j).trans ((h_cpo us2 rfl j).trans ((h_cpo us1 rfl j)))))))))))), fun _ => ⟨fun j a b => (((h_upo us20 rfl j).trans ((h_upo us18 rfl j).trans ((h_upo us16 rfl j).trans ((h_cpo us14 rfl j).trans ((h_cpo us13 rfl j)))))).trans (h_cpi us12 a b)).trans ((h_cpo us11 rfl j).trans ((h_upo us10 rfl j).trans ((h_cpo us8 rfl j).trans ((h_cpo us7 rfl j).trans ((h_upo us6 rfl j).trans ((h_cpo us4 rfl j).trans ((h_cpo us3 rfl j).trans ((h_cpo us2 rfl j).trans ((h_cpo us1 rfl j)))))))))), fun j a b => (((h_upo us20 rfl j).trans ((h_upo us18 rfl j).trans ((h_upo us16 rfl j).trans ((h_cpo us14 rfl j))))).trans (h_cpi us13 a b)).trans ((h_cpo us12 rfl j).trans ((h_cpo us11 rfl j).trans ((h_upo us10 rfl j).trans ((h_cpo us8 rfl j).trans ((h_cpo us7 rfl j).trans ((h_upo us6 rfl j).trans ((h_cpo us4 rfl j).trans ((h_cpo us3 rfl j).trans ((h_cpo us2 rfl j).trans ((h_cpo us1 rfl j)))))))))))⟩⟩)
def kf_n_copy_10_66 : List Nat := [10248, 10249, 10250, 12287, 13311, 13314, 15359, 16383, 16386, 18431, 19455, 20479, 21503, 22527, 23551]
set_option maxHeartbeats 100000000 in
set_option maxHeartbeats 100000000 in
theorem n_copy_10_66 {ns : Nat} (σ : h_S) (hI : h_I σ) {Q : Option Value → h_S → Prop} (kk : ∀ (τ : h_S), h_I τ → h_F (k_in kf_n_copy_10_66) τ σ → (c_eq true τ 10 σ 66) → Q none τ) : h_T g_P (g_Y ns) 3 0 [(0, .ref 10), (1, .ref 66)] [] σ Q := by
  have F00 : h_F (k_in kf_n_copy_10_66) σ σ := h_F.rf
  refine h_aload_n (pc' := 1) rfl rfl rfl ?_
  refine h_getR (pc' := 4) rfl rfl rfl rfl rfl ?_
  refine h_iconst (pc' := 5) (x := (Int32.ofInt 0)) rfl rfl rfl ?_
  refine h_aload_n (pc' := 6) rfl rfl rfl ?_
  refine h_getR (pc' := 9) rfl rfl rfl rfl rfl ?_
  refine h_iconst (pc' := 10) (x := (Int32.ofInt 0)) rfl rfl rfl ?_
  refine h_bipush (pc' := 12) (x := (Int32.ofInt 6)) rfl rfl cb_6 ?_
  refine h_acp (pc' := 15) rfl rfl rfl rfl rfl rfl rfl rfl rfl rfl ci_6 (h_fgt (E := fun s => s 98 13 = σ 98 13 ∧ s = h_cp σ 67 11 6) _ (h_I_cp hI (fun _ _ h => h)) (F00.cp (fun _ => rfl)) ⟨rfl, rfl⟩ (fun s1 Is1 Fs1 (es1 : s1 98 13 = σ 98 13 ∧ s1 = h_cp σ 67 11 6) => ?_))
  have us1 := es1.2
  refine h_aload_n (pc' := 16) rfl rfl rfl ?_
  refine h_getR (pc' := 19) rfl rfl rfl rfl rfl ?_
  refine h_iconst (pc' := 20) (x := (Int32.ofInt 0)) rfl rfl rfl ?_
  refine h_aload_n (pc' := 21) rfl rfl rfl ?_
  refine h_getR (pc' := 24) rfl rfl rfl rfl rfl ?_
  refine h_iconst (pc' := 25) (x := (Int32.ofInt 0)) rfl rfl rfl ?_
  refine h_bipush (pc' := 27) (x := (Int32.ofInt 6)) rfl rfl cb_6 ?_
  refine h_acp (pc' := 30) rfl rfl rfl rfl rfl rfl rfl rfl rfl rfl ci_6 (h_fgt (E := fun s => s 98 13 = σ 98 13 ∧ s = h_cp s1 68 12 6) _ (h_I_cp Is1 (fun _ _ h => h)) (Fs1.cp (fun _ => rfl)) ⟨es1.1, rfl⟩ (fun s2 Is2 Fs2 (es2 : s2 98 13 = σ 98 13 ∧ s2 = h_cp s1 68 12 6) => ?_))
  have us2 := es2.2
  clear es1
  refine h_aload_n (pc' := 31) rfl rfl rfl ?_
  refine h_getR (pc' := 34) rfl rfl rfl rfl rfl ?_
  refine h_aload_n (pc' := 35) rfl rfl rfl ?_
  refine h_getR (pc' := 38) rfl rfl rfl rfl rfl ?_
  refine h_call (sp := false) (pc' := 41) (M := [(0, .ref 13), (1, .ref 69)]) rfl rfl rfl rfl rfl rfl rfl rfl ?_
  refine h_aload_n (pc' := 1) rfl rfl rfl ?_
  refine h_getR (pc' := 4) rfl rfl rfl rfl rfl ?_
  refine h_iconst (pc' := 5) (x := (Int32.ofInt 0)) rfl rfl rfl ?_
  refine h_aload_n (pc' := 6) rfl rfl rfl ?_
  refine h_getR (pc' := 9) rfl rfl rfl rfl rfl ?_
  refine h_iconst (pc' := 10) (x := (Int32.ofInt 0)) rfl rfl rfl ?_
  refine h_iconst (pc' := 11) (x := (Int32.ofInt 3)) rfl rfl rfl ?_
  refine h_acp (pc' := 14) rfl rfl rfl rfl rfl rfl rfl rfl rfl rfl ci_3 (h_fgt (E := fun s => s 98 13 = σ 98 13 ∧ s = h_cp s2 70 14 3) _ (h_I_cp Is2 (fun _ _ h => h)) (Fs2.cp (fun _ => rfl)) ⟨es2.1, rfl⟩ (fun s3 Is3 Fs3 (es3 : s3 98 13 = σ 98 13 ∧ s3 = h_cp s2 70 14 3) => ?_))
  have us3 := es3.2
  clear es2
  refine h_aload_n (pc' := 15) rfl rfl rfl ?_
  refine h_getR (pc' := 18) rfl rfl rfl rfl rfl ?_
  refine h_iconst (pc' := 19) (x := (Int32.ofInt 0)) rfl rfl rfl ?_
  refine h_aload_n (pc' := 20) rfl rfl rfl ?_
  refine h_getR (pc' := 23) rfl rfl rfl rfl rfl ?_
  refine h_iconst (pc' := 24) (x := (Int32.ofInt 0)) rfl rfl rfl ?_
  refine h_iconst (pc' := 25) (x := (Int32.ofInt 3)) rfl rfl rfl ?_
  refine h_acp (pc' := 28) rfl rfl rfl rfl rfl rfl rfl rfl rfl rfl ci_3 (h_fgt (E := fun s => s 98 13 = σ 98 13 ∧ s = h_cp s3 71 15 3) _ (h_I_cp Is3 (fun _ _ h => h)) (Fs3.cp (fun _ => rfl)) ⟨es3.1, rfl⟩ (fun s4 Is4 Fs4 (es4 : s4 98 13 = σ 98 13 ∧ s4 = h_cp s3 71 15 3) => ?_))
  have us4 := es4.2
  clear es3
  refine h_aload_n (pc' := 29) rfl rfl rfl ?_
  refine h_aload_n (pc' := 30) rfl rfl rfl ?_
  refine h_getI (pc' := 33) (v := σ 69 2) rfl rfl rfl rfl rfl (Fs4 69 2 rfl) (fun z5 hz5 => ?_)
  have tz5 := tf_69_2 hI
  refine h_put (pc' := 36) rfl rfl rfl rfl rfl rfl hz5 rfl (h_fgt (E := fun s => s 98 13 = σ 98 13 ∧ s = h_up s4 13 2 (σ 69 2)) _ (if_13_2 Is4 (by omega)) (Fs4.up rfl) ⟨es4.1, rfl⟩ (fun s6 Is6 Fs6 (es6 : s6 98 13 = σ 98 13 ∧ s6 = h_up s4 13 2 (σ 69 2)) => ?_))
  clear es4
  have us6 := es6.2
  refine h_vret rfl rfl (h_Kn ?_)
  refine h_aload_n (pc' := 42) rfl rfl rfl ?_
  refine h_getR (pc' := 45) rfl rfl rfl rfl rfl ?_
  refine h_aload_n (pc' := 46) rfl rfl rfl ?_
  refine h_getR (pc' := 49) rfl rfl rfl rfl rfl ?_
  refine h_call (sp := false) (pc' := 52) (M := [(0, .ref 16), (1, .ref 72)]) rfl rfl rfl rfl rfl rfl rfl rfl ?_
  refine h_aload_n (pc' := 1) rfl rfl rfl ?_
  refine h_getR (pc' := 4) rfl rfl rfl rfl rfl ?_
  refine h_iconst (pc' := 5) (x := (Int32.ofInt 0)) rfl rfl rfl ?_
  refine h_aload_n (pc' := 6) rfl rfl rfl ?_
  refine h_getR (pc' := 9) rfl rfl rfl rfl rfl ?_
  refine h_iconst (pc' := 10) (x := (Int32.ofInt 0)) rfl rfl rfl ?_
  refine h_iconst (pc' := 11) (x := (Int32.ofInt 3)) rfl rfl rfl ?_
  refine h_acp (pc' := 14) rfl rfl rfl rfl rfl rfl rfl rfl rfl rfl ci_3 (h_fgt (E := fun s => s 98 13 = σ 98 13 ∧ s = h_cp s6 73 17 3) _ (h_I_cp Is6 (fun _ _ h => h)) (Fs6.cp (fun _ => rfl)) ⟨es6.1, rfl⟩ (fun s7 Is7 Fs7 (es7 : s7 98 13 = σ 98 13 ∧ s7 = h_cp s6 73 17 3) => ?_))
  have us7 := es7.2
  clear es6
  refine h_aload_n (pc' := 15) rfl rfl rfl ?_
  refine h_getR (pc' := 18) rfl rfl rfl rfl rfl ?_
  refine h_iconst (pc' := 19) (x := (Int32.ofInt 0)) rfl rfl rfl ?_
  refine h_aload_n (pc' := 20) rfl rfl rfl ?_
  refine h_getR (pc' := 23) rfl rfl rfl rfl rfl ?_
  refine h_iconst (pc' := 24) (x := (Int32.ofInt 0)) rfl rfl rfl ?_
  refine h_iconst (pc' := 25) (x := (Int32.ofInt 3)) rfl rfl rfl ?_
  refine h_acp (pc' := 28) rfl rfl rfl rfl rfl rfl rfl rfl rfl rfl ci_3 (h_fgt (E := fun s => s 98 13 = σ 98 13 ∧ s = h_cp s7 74 18 3) _ (h_I_cp Is7 (fun _ _ h => h)) (Fs7.cp (fun _ => rfl)) ⟨es7.1, rfl⟩ (fun s8 Is8 Fs8 (es8 : s8 98 13 = σ 98 13 ∧ s8 = h_cp s7 74 18 3) => ?_))
  have us8 := es8.2
  clear es7
  refine h_aload_n (pc' := 29) rfl rfl rfl ?_
  refine h_aload_n (pc' := 30) rfl rfl rfl ?_
  refine h_getI (pc' := 33) (v := σ 72 2) rfl rfl rfl rfl rfl (Fs8 72 2 rfl) (fun z9 hz9 => ?_)
  have tz9 := tf_72_2 hI
  refine h_put (pc' := 36) rfl rfl rfl rfl rfl rfl hz9 rfl (h_fgt (E := fun s => s 98 13 = σ 98 13 ∧ s = h_up s8 16 2 (σ 72 2)) _ (if_16_2 Is8 (by omega)) (Fs8.up rfl) ⟨es8.1, rfl⟩ (fun s10 Is10 Fs10 (es10 : s10 98 13 = σ 98 13 ∧ s10 = h_up s8 16 2 (σ 72 2)) => ?_))
  clear es8
  have us10 := es10.2
  refine h_vret rfl rfl (h_Kn ?_)
  refine h_aload_n (pc' := 53) rfl rfl rfl ?_
  refine h_getR (pc' := 56) rfl rfl rfl rfl rfl ?_
  refine h_iconst (pc' := 57) (x := (Int32.ofInt 0)) rfl rfl rfl ?_
  refine h_aload_n (pc' := 58) rfl rfl rfl ?_
  refine h_getR (pc' := 61) rfl rfl rfl rfl rfl ?_
  refine h_iconst (pc' := 62) (x := (Int32.ofInt 0)) rfl rfl rfl ?_
  refine h_iconst (pc' := 63) (x := (Int32.ofInt 3)) rfl rfl rfl ?_
  refine h_acp (pc' := 66) rfl rfl rfl rfl rfl rfl rfl rfl rfl rfl ci_3 (h_fgt (E := fun s => s 98 13 = σ 98 13 ∧ s = h_cp s10 75 19 3) _ (h_I_cp Is10 (fun _ _ h => h)) (Fs10.cp (fun _ => rfl)) ⟨es10.1, rfl⟩ (fun s11 Is11 Fs11 (es11 : s11 98 13 = σ 98 13 ∧ s11 = h_cp s10 75 19 3) => ?_))
  have us11 := es11.2
  clear es10
  refine h_aload_n (pc' := 67) rfl rfl rfl ?_
  refine h_getR (pc' := 70) rfl rfl rfl rfl rfl ?_
  refine h_iconst (pc' := 71) (x := (Int32.ofInt 0)) rfl rfl rfl ?_
  refine h_aload_n (pc' := 72) rfl rfl rfl ?_
  refine h_getR (pc' := 75) rfl rfl rfl rfl rfl ?_
  refine h_iconst (pc' := 76) (x := (Int32.ofInt 0)) rfl rfl rfl ?_
  refine h_iconst (pc' := 77) (x := (Int32.ofInt 3)) rfl rfl rfl ?_
  refine h_acp (pc' := 80) rfl rfl rfl rfl rfl rfl rfl rfl rfl rfl ci_3 (h_fgt (E := fun s => s 98 13 = σ 98 13 ∧ s = h_cp s11 76 20 3) _ (h_I_cp Is11 (fun _ _ h => h)) (Fs11.cp (fun _ => rfl)) ⟨es11.1, rfl⟩ (fun s12 Is12 Fs12 (es12 : s12 98 13 = σ 98 13 ∧ s12 = h_cp s11 76 20 3) => ?_))
  have us12 := es12.2
  clear es11
  refine h_aload_n (pc' := 81) rfl rfl rfl ?_
  refine h_getR (pc' := 84) rfl rfl rfl rfl rfl ?_
  refine h_iconst (pc' := 85) (x := (Int32.ofInt 0)) rfl rfl rfl ?_
  refine h_aload_n (pc' := 86) rfl rfl rfl ?_
  refine h_getR (pc' := 89) rfl rfl rfl rfl rfl ?_
  refine h_iconst (pc' := 90) (x := (Int32.ofInt 0)) rfl rfl rfl ?_
  refine h_iconst (pc' := 91) (x := (Int32.ofInt 3)) rfl rfl rfl ?_
  refine h_acp (pc' := 94) rfl rfl rfl rfl rfl rfl rfl rfl rfl rfl ci_3 (h_fgt (E := fun s => s 98 13 = σ 98 13 ∧ s = h_cp s12 77 21 3) _ (h_I_cp Is12 (fun _ _ h => h)) (Fs12.cp (fun _ => rfl)) ⟨es12.1, rfl⟩ (fun s13 Is13 Fs13 (es13 : s13 98 13 = σ 98 13 ∧ s13 = h_cp s12 77 21 3) => ?_))
  have us13 := es13.2
  clear es12
  refine h_aload_n (pc' := 95) rfl rfl rfl ?_
  refine h_getR (pc' := 98) rfl rfl rfl rfl rfl ?_
  refine h_iconst (pc' := 99) (x := (Int32.ofInt 0)) rfl rfl rfl ?_
  refine h_aload_n (pc' := 100) rfl rfl rfl ?_
  refine h_getR (pc' := 103) rfl rfl rfl rfl rfl ?_
  refine h_iconst (pc' := 104) (x := (Int32.ofInt 0)) rfl rfl rfl ?_
  refine h_bipush (pc' := 106) (x := (Int32.ofInt 8)) rfl rfl cb_8 ?_
  refine h_acp (pc' := 109) rfl rfl rfl rfl rfl rfl rfl rfl rfl rfl ci_8 (h_fgt (E := fun s => s 98 13 = σ 98 13 ∧ s = h_cp s13 78 22 8) _ (h_I_cp Is13 (fun _ _ h => h)) (Fs13.cp (fun _ => rfl)) ⟨es13.1, rfl⟩ (fun s14 Is14 Fs14 (es14 : s14 98 13 = σ 98 13 ∧ s14 = h_cp s13 78 22 8) => ?_))
  have us14 := es14.2
  clear es13
  refine h_aload_n (pc' := 110) rfl rfl rfl ?_
  refine h_aload_n (pc' := 111) rfl rfl rfl ?_
  refine h_getI (pc' := 114) (v := σ 66 8) rfl rfl rfl rfl rfl (Fs14 66 8 rfl) (fun z15 hz15 => ?_)
  have tz15 := tf_66_8 hI
  refine h_put (pc' := 117) rfl rfl rfl rfl rfl rfl hz15 rfl (h_fgt (E := fun s => s 98 13 = σ 98 13 ∧ s = h_up s14 10 8 (σ 66 8)) _ (if_10_8 Is14 (by omega)) (Fs14.up rfl) ⟨es14.1, rfl⟩ (fun s16 Is16 Fs16 (es16 : s16 98 13 = σ 98 13 ∧ s16 = h_up s14 10 8 (σ 66 8)) => ?_))
  clear es14
  have us16 := es16.2
  refine h_aload_n (pc' := 118) rfl rfl rfl ?_
  refine h_aload_n (pc' := 119) rfl rfl rfl ?_
  refine h_getI (pc' := 122) (v := σ 66 9) rfl rfl rfl rfl rfl (Fs16 66 9 rfl) (fun z17 hz17 => ?_)
  have tz17 := tf_66_9 hI
  refine h_put (pc' := 125) rfl rfl rfl rfl rfl rfl hz17 rfl (h_fgt (E := fun s => s 98 13 = σ 98 13 ∧ s = h_up s16 10 9 (σ 66 9)) _ (if_10_9 Is16 (by omega)) (Fs16.up rfl) ⟨es16.1, rfl⟩ (fun s18 Is18 Fs18 (es18 : s18 98 13 = σ 98 13 ∧ s18 = h_up s16 10 9 (σ 66 9)) => ?_))
  clear es16
  have us18 := es18.2
  refine h_aload_n (pc' := 126) rfl rfl rfl ?_
  refine h_aload_n (pc' := 127) rfl rfl rfl ?_
  refine h_getI (pc' := 130) (v := σ 66 10) rfl rfl rfl rfl rfl (Fs18 66 10 rfl) (fun z19 hz19 => ?_)
  have tz19 := tf_66_10 hI
  refine h_put (pc' := 133) rfl rfl rfl rfl rfl rfl hz19 rfl (h_fgt (E := fun s => s 98 13 = σ 98 13 ∧ s = h_up s18 10 10 (σ 66 10)) _ (if_10_10 Is18 (by omega)) (Fs18.up rfl) ⟨es18.1, rfl⟩ (fun s20 Is20 Fs20 (es20 : s20 98 13 = σ 98 13 ∧ s20 = h_up s18 10 10 (σ 66 10)) => ?_))
  clear es18
  have us20 := es20.2
  exact h_vret rfl rfl (kk _ Is20 Fs20 ⟨⟨((h_upd us20 (by decide)).trans ((h_upd us18 (by decide)))).trans (h_upv us16), ((h_upd us20 (by decide))).trans (h_upv us18), h_upv us20, ((h_upo us20 rfl 2).trans ((h_upo us18 rfl 2).trans ((h_upo us16 rfl 2).trans ((h_cpo us14 rfl 2).trans ((h_cpo us13 rfl 2).trans ((h_cpo us12 rfl 2).trans ((h_cpo us11 rfl 2).trans ((h_upo us10 rfl 2).trans ((h_cpo us8 rfl 2).trans ((h_cpo us7 rfl 2))))))))))).trans (h_upv us6), ((h_upo us20 rfl 2).trans ((h_upo us18 rfl 2).trans ((h_upo us16 rfl 2).trans ((h_cpo us14 rfl 2).trans ((h_cpo us13 rfl 2).trans ((h_cpo us12 rfl 2).trans ((h_cpo us11 rfl 2)))))))).trans (h_upv us10)⟩, fun j a b => ((h_upo us20 rfl j).trans ((h_upo us18 rfl j).trans ((h_upo us16 rfl j).trans ((h_cpo us14 rfl j).trans ((h_cpo us13 rfl j).trans ((h_cpo us12 rfl j).trans ((h_cpo us11 rfl j).trans ((h_upo us10 rfl j).trans ((h_cpo us8 rfl j).trans ((h_cpo us7 rfl j).trans ((h_upo us6 rfl j).trans ((h_cpo us4 rfl j).trans ((h_cpo us3 rfl j).trans ((h_cpo us2 rfl j))))))))))))))).trans (h_cpi us1 a b), fun j a b => (((h_upo us20 rfl j).trans ((h_upo us18 rfl j).trans ((h_upo us16 rfl j).trans ((h_cpo us14 rfl j).trans ((h_cpo us13 rfl j).trans ((h_cpo us12 rfl j).trans ((h_cpo us11 rfl j).trans ((h_upo us10 rfl j).trans ((h_cpo us8 rfl j).trans ((h_cpo us7 rfl j).trans ((h_upo us6 rfl j).trans ((h_cpo us4 rfl j).trans ((h_cpo us3 rfl j)))))))))))))).trans (h_cpi us2 a b)).trans ((h_cpo us1 rfl j)), fun j a b => (((h_upo us20 rfl j).trans ((h_upo us18 rfl j).trans ((h_upo us16 rfl j).trans ((h_cpo us14 rfl j).trans ((h_cpo us13 rfl j).trans ((h_cpo us12 rfl j).trans ((h_cpo us11 rfl j).trans ((h_upo us10 rfl j).trans ((h_cpo us8 rfl j).trans ((h_cpo us7 rfl j).trans ((h_upo us6 rfl j).trans ((h_cpo us4 rfl j))))))))))))).trans (h_cpi us3 a b)).trans ((h_cpo us2 rfl j).trans ((h_cpo us1 rfl j))), fun j a b => (((h_upo us20 rfl j).trans ((h_upo us18 rfl j).trans ((h_upo us16 rfl j).trans ((h_cpo us14 rfl j).trans ((h_cpo us13 rfl j).trans ((h_cpo us12 rfl j).trans ((h_cpo us11 rfl j).trans ((h_upo us10 rfl j).trans ((h_cpo us8 rfl j).trans ((h_cpo us7 rfl j).trans ((h_upo us6 rfl j)))))))))))).trans (h_cpi us4 a b)).trans ((h_cpo us3 rfl j).trans ((h_cpo us2 rfl j).trans ((h_cpo us1 rfl j)))), fun j a b => (((h_upo us20 rfl j).trans ((h_upo us18 rfl j).trans ((h_upo us16 rfl j).trans ((h_cpo us14 rfl j).trans ((h_cpo us13 rfl j).trans ((h_cpo us12 rfl j).trans ((h_cpo us11 rfl j).trans ((h_upo us10 rfl j).trans ((h_cpo us8 rfl j)))))))))).trans (h_cpi us7 a b)).trans ((h_upo us6 rfl j).trans ((h_cpo us4 rfl j).trans ((h_cpo us3 rfl j).trans ((h_cpo us2 rfl j).trans ((h_cpo us1 rfl j)))))), fun j a b => (((h_upo us20 rfl j).trans ((h_upo us18 rfl j).trans ((h_upo us16 rfl j).trans ((h_cpo us14 rfl j).trans ((h_cpo us13 rfl j).trans ((h_cpo us12 rfl j).trans ((h_cpo us11 rfl j).trans ((h_upo us10 rfl j))))))))).trans (h_cpi us8 a b)).trans ((h_cpo us7 rfl j).trans ((h_upo us6 rfl j).trans ((h_cpo us4 rfl j).trans ((h_cpo us3 rfl j).trans ((h_cpo us2 rfl j).trans ((h_cpo us1 rfl j))))))), fun j a b => (((h_upo us20 rfl j).trans ((h_upo us18 rfl j).trans ((h_upo us16 rfl j).trans ((h_cpo us14 rfl j).trans ((h_cpo us13 rfl j).trans ((h_cpo us12 rfl j))))))).trans (h_cpi us11 a b)).trans ((h_upo us10 rfl j).trans ((h_cpo us8 rfl j).trans ((h_cpo us7 rfl j).trans ((h_upo us6 rfl j).trans ((h_cpo us4 rfl j).trans ((h_cpo us3 rfl j).trans ((h_cpo us2 rfl j).trans ((h_cpo us1 rfl j))))))))), fun j a b => (((h_upo us20 rfl j).trans ((h_upo us18 rfl j).trans ((h_upo us16 rfl j)))).trans (h_cpi us14 a b)).trans ((h_cpo us13 rfl j).trans ((h_cpo us12 rfl j).trans ((h_cpo us11 rfl j).trans ((h_upo us10 rfl j).trans ((h_cpo us8 rfl j).trans ((h_cpo us7 rfl j).trans ((h_upo us6 rfl j).trans ((h_cpo us4 rfl j).trans ((h_cpo us3 rfl j).trans ((h_cpo us2 rfl j).trans ((h_cpo us1 rfl j)))))))))))), fun _ => ⟨fun j a b => (((h_upo us20 rfl j).trans ((h_upo us18 rfl j).trans ((h_upo us16 rfl j).trans ((h_cpo us14 rfl j).trans ((h_cpo us13 rfl j)))))).trans (h_cpi us12 a b)).trans ((h_cpo us11 rfl j).trans ((h_upo us10 rfl j).trans ((h_cpo us8 rfl j).trans ((h_cpo us7 rfl j).trans ((h_upo us6 rfl j).trans ((h_cpo us4 rfl j).trans ((h_cpo us3 rfl j).trans ((h_cpo us2 rfl j).trans ((h_cpo us1 rfl j)))))))))), fun j a b => (((h_upo us20 rfl j).trans ((h_upo us18 rfl j).trans ((h_upo us16 rfl j).trans ((h_cpo us14 rfl j))))).trans (h_cpi us13 a b)).trans ((h_cpo us12 rfl j).trans ((h_cpo us11 rfl j).trans ((h_upo us10 rfl j).trans ((h_cpo us8 rfl j).trans ((h_cpo us7 rfl j).trans ((h_upo us6 rfl j).trans ((h_cpo us4 rfl j).trans ((h_cpo us3 rfl j).trans ((h_cpo us2 rfl j).trans ((h_cpo us1 rfl j)))))))))))⟩⟩)
def kf_n_copies_0_176 : List Nat := [101892]
set_option maxHeartbeats 100000000 in
set_option maxHeartbeats 100000000 in
theorem n_copies_0_176_l (ns : Nat) (σ : h_S) (hI : h_I σ) {Q : Option Value → h_S → Prop} (kk : ∀ (τ : h_S), h_I τ → h_F (k_in kf_n_copies_0_176) τ σ → (∀ j, 0 ≤ j → j < 44 → τ 99 (176 + j) = σ 99 (0 + j)) → Q none τ) : ∀ n : Nat, (∀ (s0 : h_S), h_I s0 → h_F (k_in kf_n_copies_0_176) s0 σ → ∀ (y3 : Int32) (b3 : Int), y3.toInt = b3 → (0 ≤ b3 ∧ b3 ≤ 44) → (∀ j, 0 ≤ j → j < b3 → s0 99 (176 + j) = σ 99 (0 + j)) → (44 + 1 - b3) * 1000000 + 1000000000 ≤ (n : Int) → h_T g_P (g_Y ns) 190 2 [(0, .ref 98), (1, .int (Int32.ofInt 0)), (2, .int (Int32.ofInt 176)), (3, .int y3)] [] s0 Q) := by
  intro n
  induction n with
  | zero => exact by intro s0 I0 F0_ y3 b3 hy3 ry3 ex0 hm; exfalso; omega
  | succ n ih =>
    intro s0 I0 F0_ y3 b3 hy3 ry3 ex0 hm
    refine h_iload_n (pc' := 3) rfl rfl rfl ?_
    refine h_bipush (pc' := 5) (x := (Int32.ofInt 44)) rfl rfl cb_44 ?_
    refine h_cge (tg := 30) (pc' := 8) rfl rfl rfl hy3 ci_44 (fun c1 => ?_) (fun c1 => ?_)
    · exact h_vret rfl rfl (kk _ I0 F0_ (fun j a b => ex0 j a (by omega)))
    · refine h_aload_n (pc' := 9) rfl rfl rfl ?_
      refine h_getR (pc' := 12) rfl rfl rfl rfl rfl ?_
      refine h_iload_n (pc' := 13) rfl rfl rfl ?_
      refine h_iload_n (pc' := 14) rfl rfl rfl ?_
      refine h_iadd (pc' := 15) rfl rfl ci_176 hy3 rfl (by omega) (by omega) (fun z2 hz2 => ?_)
      refine h_aload_n (pc' := 16) rfl rfl rfl ?_
      refine h_getR (pc' := 19) rfl rfl rfl rfl rfl ?_
      refine h_iload_n (pc' := 20) rfl rfl rfl ?_
      refine h_iload_n (pc' := 21) rfl rfl rfl ?_
      refine h_iadd (pc' := 22) rfl rfl ci_0 hy3 rfl (by omega) (by omega) (fun z3 hz3 => ?_)
      refine h_iald (pc' := 23) (v := σ 99 (0 + b3)) rfl rfl rfl hz3 (by omega) (by omega) (F0_ 99 _ (k_no (l := 0) (h := 43) rfl (by omega) (by omega))) (fun z4 hz4 => ?_)
      have tz4 := h_rng z4
      rw [hz4] at tz4
      refine h_iast (pc' := 24) rfl rfl rfl rfl hz2 (by omega) (by omega) hz4 (h_fgt (E := fun s => s 98 13 = s0 98 13 ∧ s = h_up s0 99 (176 + b3) (σ 99 (0 + b3))) _ (im_99 (i := (0 + b3)) I0 (by omega) (hI 99 (0 + b3))) (F0_.up (k_ipg (p := 4) rfl rfl (by omega))) ⟨rfl, rfl⟩ (fun s5 Is5 Fs5 (es5 : s5 98 13 = s0 98 13 ∧ s5 = h_up s0 99 (176 + b3) (σ 99 (0 + b3))) => ?_))
      have us5 := es5.2
      refine h_iinc (pc' := 27) (M := fun z6 => [(3, .int z6), (0, .ref 98), (1, .int (Int32.ofInt 0)), (2, .int (Int32.ofInt 176))]) rfl rfl rfl rfl hy3 ci_1 rfl (by omega) (by omega) (fun _ => rfl) (fun z6 hz6 => ?_)
      refine h_goto (pc' := 2) rfl rfl ?_
      exact h_wk [(0, .ref 98), (1, .int (Int32.ofInt 0)), (2, .int (Int32.ofInt 176)), (3, .int z6)] ⟨rfl, rfl, rfl, rfl, trivial⟩ (ih _ Is5 Fs5 z6 _ hz6 (by omega) (cp_s (F := fun j => σ 99 (0 + j)) us5 rfl rfl ex0) (by omega))
set_option maxHeartbeats 100000000 in
set_option maxHeartbeats 100000000 in
theorem n_copies_0_176 {ns : Nat} (σ : h_S) (hI : h_I σ) {Q : Option Value → h_S → Prop} (kk : ∀ (τ : h_S), h_I τ → h_F (k_in kf_n_copies_0_176) τ σ → (∀ j, 0 ≤ j → j < 44 → τ 99 (176 + j) = σ 99 (0 + j)) → Q none τ) : h_T g_P (g_Y ns) 190 0 [(0, .ref 98), (1, .int (Int32.ofInt 0)), (2, .int (Int32.ofInt 176))] [] σ Q := by
  have F00 : h_F (k_in kf_n_copies_0_176) σ σ := h_F.rf
  refine h_iconst (pc' := 1) (x := (Int32.ofInt 0)) rfl rfl rfl ?_
  refine h_istore_n (pc' := 2) (M := [(3, .int (Int32.ofInt 0)), (0, .ref 98), (1, .int (Int32.ofInt 0)), (2, .int (Int32.ofInt 176))]) rfl rfl rfl rfl ?_
  exact h_wk [(0, .ref 98), (1, .int (Int32.ofInt 0)), (2, .int (Int32.ofInt 176)), (3, .int (Int32.ofInt 0))] ⟨rfl, rfl, rfl, rfl, trivial⟩ ((n_copies_0_176_l ns σ hI  kk 1000000000000) _ hI F00 (Int32.ofInt 0) _ ci_0 (by omega) (fun j a b => absurd b (by omega)) (by omega))
def kf_n_copies_176_0 : List Nat := [101888]
set_option maxHeartbeats 100000000 in
set_option maxHeartbeats 100000000 in
theorem n_copies_176_0_l (ns : Nat) (σ : h_S) (hI : h_I σ) {Q : Option Value → h_S → Prop} (kk : ∀ (τ : h_S), h_I τ → h_F (k_in kf_n_copies_176_0) τ σ → (∀ j, 0 ≤ j → j < 44 → τ 99 (0 + j) = σ 99 (176 + j)) → Q none τ) : ∀ n : Nat, (∀ (s0 : h_S), h_I s0 → h_F (k_in kf_n_copies_176_0) s0 σ → ∀ (y3 : Int32) (b3 : Int), y3.toInt = b3 → (0 ≤ b3 ∧ b3 ≤ 44) → (∀ j, 0 ≤ j → j < b3 → s0 99 (0 + j) = σ 99 (176 + j)) → (44 + 1 - b3) * 1000000 + 1000000000 ≤ (n : Int) → h_T g_P (g_Y ns) 190 2 [(0, .ref 98), (1, .int (Int32.ofInt 176)), (2, .int (Int32.ofInt 0)), (3, .int y3)] [] s0 Q) := by
  intro n
  induction n with
  | zero => exact by intro s0 I0 F0_ y3 b3 hy3 ry3 ex0 hm; exfalso; omega
  | succ n ih =>
    intro s0 I0 F0_ y3 b3 hy3 ry3 ex0 hm
    refine h_iload_n (pc' := 3) rfl rfl rfl ?_
    refine h_bipush (pc' := 5) (x := (Int32.ofInt 44)) rfl rfl cb_44 ?_
    refine h_cge (tg := 30) (pc' := 8) rfl rfl rfl hy3 ci_44 (fun c1 => ?_) (fun c1 => ?_)
    · exact h_vret rfl rfl (kk _ I0 F0_ (fun j a b => ex0 j a (by omega)))
    · refine h_aload_n (pc' := 9) rfl rfl rfl ?_
      refine h_getR (pc' := 12) rfl rfl rfl rfl rfl ?_
      refine h_iload_n (pc' := 13) rfl rfl rfl ?_
      refine h_iload_n (pc' := 14) rfl rfl rfl ?_
      refine h_iadd (pc' := 15) rfl rfl ci_0 hy3 rfl (by omega) (by omega) (fun z2 hz2 => ?_)
      refine h_aload_n (pc' := 16) rfl rfl rfl ?_
      refine h_getR (pc' := 19) rfl rfl rfl rfl rfl ?_
      refine h_iload_n (pc' := 20) rfl rfl rfl ?_
      refine h_iload_n (pc' := 21) rfl rfl rfl ?_
      refine h_iadd (pc' := 22) rfl rfl ci_176 hy3 rfl (by omega) (by omega) (fun z3 hz3 => ?_)
      refine h_iald (pc' := 23) (v := σ 99 (176 + b3)) rfl rfl rfl hz3 (by omega) (by omega) (F0_ 99 _ (k_no (l := 176) (h := 219) rfl (by omega) (by omega))) (fun z4 hz4 => ?_)
      have tz4 := h_rng z4
      rw [hz4] at tz4
      refine h_iast (pc' := 24) rfl rfl rfl rfl hz2 (by omega) (by omega) hz4 (h_fgt (E := fun s => s 98 13 = s0 98 13 ∧ s = h_up s0 99 (0 + b3) (σ 99 (176 + b3))) _ (im_99 (i := (176 + b3)) I0 (by omega) (hI 99 (176 + b3))) (F0_.up (k_ipg (p := 0) rfl rfl (by omega))) ⟨rfl, rfl⟩ (fun s5 Is5 Fs5 (es5 : s5 98 13 = s0 98 13 ∧ s5 = h_up s0 99 (0 + b3) (σ 99 (176 + b3))) => ?_))
      have us5 := es5.2
      refine h_iinc (pc' := 27) (M := fun z6 => [(3, .int z6), (0, .ref 98), (1, .int (Int32.ofInt 176)), (2, .int (Int32.ofInt 0))]) rfl rfl rfl rfl hy3 ci_1 rfl (by omega) (by omega) (fun _ => rfl) (fun z6 hz6 => ?_)
      refine h_goto (pc' := 2) rfl rfl ?_
      exact h_wk [(0, .ref 98), (1, .int (Int32.ofInt 176)), (2, .int (Int32.ofInt 0)), (3, .int z6)] ⟨rfl, rfl, rfl, rfl, trivial⟩ (ih _ Is5 Fs5 z6 _ hz6 (by omega) (cp_s (F := fun j => σ 99 (176 + j)) us5 rfl rfl ex0) (by omega))
set_option maxHeartbeats 100000000 in
set_option maxHeartbeats 100000000 in
theorem n_copies_176_0 {ns : Nat} (σ : h_S) (hI : h_I σ) {Q : Option Value → h_S → Prop} (kk : ∀ (τ : h_S), h_I τ → h_F (k_in kf_n_copies_176_0) τ σ → (∀ j, 0 ≤ j → j < 44 → τ 99 (0 + j) = σ 99 (176 + j)) → Q none τ) : h_T g_P (g_Y ns) 190 0 [(0, .ref 98), (1, .int (Int32.ofInt 176)), (2, .int (Int32.ofInt 0))] [] σ Q := by
  have F00 : h_F (k_in kf_n_copies_176_0) σ σ := h_F.rf
  refine h_iconst (pc' := 1) (x := (Int32.ofInt 0)) rfl rfl rfl ?_
  refine h_istore_n (pc' := 2) (M := [(3, .int (Int32.ofInt 0)), (0, .ref 98), (1, .int (Int32.ofInt 176)), (2, .int (Int32.ofInt 0))]) rfl rfl rfl rfl ?_
  exact h_wk [(0, .ref 98), (1, .int (Int32.ofInt 176)), (2, .int (Int32.ofInt 0)), (3, .int (Int32.ofInt 0))] ⟨rfl, rfl, rfl, rfl, trivial⟩ ((n_copies_176_0_l ns σ hI  kk 1000000000000) _ hI F00 (Int32.ofInt 0) _ ci_0 (by omega) (fun j a b => absurd b (by omega)) (by omega))
def kf_n_copies_0_44 : List Nat := [101889]
set_option maxHeartbeats 100000000 in
set_option maxHeartbeats 100000000 in
theorem n_copies_0_44_l (ns : Nat) (σ : h_S) (hI : h_I σ) {Q : Option Value → h_S → Prop} (kk : ∀ (τ : h_S), h_I τ → h_F (k_in kf_n_copies_0_44) τ σ → (∀ j, 0 ≤ j → j < 44 → τ 99 (44 + j) = σ 99 (0 + j)) → Q none τ) : ∀ n : Nat, (∀ (s0 : h_S), h_I s0 → h_F (k_in kf_n_copies_0_44) s0 σ → ∀ (y3 : Int32) (b3 : Int), y3.toInt = b3 → (0 ≤ b3 ∧ b3 ≤ 44) → (∀ j, 0 ≤ j → j < b3 → s0 99 (44 + j) = σ 99 (0 + j)) → (44 + 1 - b3) * 1000000 + 1000000000 ≤ (n : Int) → h_T g_P (g_Y ns) 190 2 [(0, .ref 98), (1, .int (Int32.ofInt 0)), (2, .int (Int32.ofInt 44)), (3, .int y3)] [] s0 Q) := by
  intro n
  induction n with
  | zero => exact by intro s0 I0 F0_ y3 b3 hy3 ry3 ex0 hm; exfalso; omega
  | succ n ih =>
    intro s0 I0 F0_ y3 b3 hy3 ry3 ex0 hm
    refine h_iload_n (pc' := 3) rfl rfl rfl ?_
    refine h_bipush (pc' := 5) (x := (Int32.ofInt 44)) rfl rfl cb_44 ?_
    refine h_cge (tg := 30) (pc' := 8) rfl rfl rfl hy3 ci_44 (fun c1 => ?_) (fun c1 => ?_)
    · exact h_vret rfl rfl (kk _ I0 F0_ (fun j a b => ex0 j a (by omega)))
    · refine h_aload_n (pc' := 9) rfl rfl rfl ?_
      refine h_getR (pc' := 12) rfl rfl rfl rfl rfl ?_
      refine h_iload_n (pc' := 13) rfl rfl rfl ?_
      refine h_iload_n (pc' := 14) rfl rfl rfl ?_
      refine h_iadd (pc' := 15) rfl rfl ci_44 hy3 rfl (by omega) (by omega) (fun z2 hz2 => ?_)
      refine h_aload_n (pc' := 16) rfl rfl rfl ?_
      refine h_getR (pc' := 19) rfl rfl rfl rfl rfl ?_
      refine h_iload_n (pc' := 20) rfl rfl rfl ?_
      refine h_iload_n (pc' := 21) rfl rfl rfl ?_
      refine h_iadd (pc' := 22) rfl rfl ci_0 hy3 rfl (by omega) (by omega) (fun z3 hz3 => ?_)
      refine h_iald (pc' := 23) (v := σ 99 (0 + b3)) rfl rfl rfl hz3 (by omega) (by omega) (F0_ 99 _ (k_no (l := 0) (h := 43) rfl (by omega) (by omega))) (fun z4 hz4 => ?_)
      have tz4 := h_rng z4
      rw [hz4] at tz4
      refine h_iast (pc' := 24) rfl rfl rfl rfl hz2 (by omega) (by omega) hz4 (h_fgt (E := fun s => s 98 13 = s0 98 13 ∧ s = h_up s0 99 (44 + b3) (σ 99 (0 + b3))) _ (im_99 (i := (0 + b3)) I0 (by omega) (hI 99 (0 + b3))) (F0_.up (k_ipg (p := 1) rfl rfl (by omega))) ⟨rfl, rfl⟩ (fun s5 Is5 Fs5 (es5 : s5 98 13 = s0 98 13 ∧ s5 = h_up s0 99 (44 + b3) (σ 99 (0 + b3))) => ?_))
      have us5 := es5.2
      refine h_iinc (pc' := 27) (M := fun z6 => [(3, .int z6), (0, .ref 98), (1, .int (Int32.ofInt 0)), (2, .int (Int32.ofInt 44))]) rfl rfl rfl rfl hy3 ci_1 rfl (by omega) (by omega) (fun _ => rfl) (fun z6 hz6 => ?_)
      refine h_goto (pc' := 2) rfl rfl ?_
      exact h_wk [(0, .ref 98), (1, .int (Int32.ofInt 0)), (2, .int (Int32.ofInt 44)), (3, .int z6)] ⟨rfl, rfl, rfl, rfl, trivial⟩ (ih _ Is5 Fs5 z6 _ hz6 (by omega) (cp_s (F := fun j => σ 99 (0 + j)) us5 rfl rfl ex0) (by omega))
set_option maxHeartbeats 100000000 in
set_option maxHeartbeats 100000000 in
theorem n_copies_0_44 {ns : Nat} (σ : h_S) (hI : h_I σ) {Q : Option Value → h_S → Prop} (kk : ∀ (τ : h_S), h_I τ → h_F (k_in kf_n_copies_0_44) τ σ → (∀ j, 0 ≤ j → j < 44 → τ 99 (44 + j) = σ 99 (0 + j)) → Q none τ) : h_T g_P (g_Y ns) 190 0 [(0, .ref 98), (1, .int (Int32.ofInt 0)), (2, .int (Int32.ofInt 44))] [] σ Q := by
  have F00 : h_F (k_in kf_n_copies_0_44) σ σ := h_F.rf
  refine h_iconst (pc' := 1) (x := (Int32.ofInt 0)) rfl rfl rfl ?_
  refine h_istore_n (pc' := 2) (M := [(3, .int (Int32.ofInt 0)), (0, .ref 98), (1, .int (Int32.ofInt 0)), (2, .int (Int32.ofInt 44))]) rfl rfl rfl rfl ?_
  exact h_wk [(0, .ref 98), (1, .int (Int32.ofInt 0)), (2, .int (Int32.ofInt 44)), (3, .int (Int32.ofInt 0))] ⟨rfl, rfl, rfl, rfl, trivial⟩ ((n_copies_0_44_l ns σ hI  kk 1000000000000) _ hI F00 (Int32.ofInt 0) _ ci_0 (by omega) (fun j a b => absurd b (by omega)) (by omega))
def kf_n_copies_0_88 : List Nat := [101890]
set_option maxHeartbeats 100000000 in
set_option maxHeartbeats 100000000 in
theorem n_copies_0_88_l (ns : Nat) (σ : h_S) (hI : h_I σ) {Q : Option Value → h_S → Prop} (kk : ∀ (τ : h_S), h_I τ → h_F (k_in kf_n_copies_0_88) τ σ → (∀ j, 0 ≤ j → j < 44 → τ 99 (88 + j) = σ 99 (0 + j)) → Q none τ) : ∀ n : Nat, (∀ (s0 : h_S), h_I s0 → h_F (k_in kf_n_copies_0_88) s0 σ → ∀ (y3 : Int32) (b3 : Int), y3.toInt = b3 → (0 ≤ b3 ∧ b3 ≤ 44) → (∀ j, 0 ≤ j → j < b3 → s0 99 (88 + j) = σ 99 (0 + j)) → (44 + 1 - b3) * 1000000 + 1000000000 ≤ (n : Int) → h_T g_P (g_Y ns) 190 2 [(0, .ref 98), (1, .int (Int32.ofInt 0)), (2, .int (Int32.ofInt 88)), (3, .int y3)] [] s0 Q) := by
  intro n
  induction n with
  | zero => exact by intro s0 I0 F0_ y3 b3 hy3 ry3 ex0 hm; exfalso; omega
  | succ n ih =>
    intro s0 I0 F0_ y3 b3 hy3 ry3 ex0 hm
    refine h_iload_n (pc' := 3) rfl rfl rfl ?_
    refine h_bipush (pc' := 5) (x := (Int32.ofInt 44)) rfl rfl cb_44 ?_
    refine h_cge (tg := 30) (pc' := 8) rfl rfl rfl hy3 ci_44 (fun c1 => ?_) (fun c1 => ?_)
    · exact h_vret rfl rfl (kk _ I0 F0_ (fun j a b => ex0 j a (by omega)))
    · refine h_aload_n (pc' := 9) rfl rfl rfl ?_
      refine h_getR (pc' := 12) rfl rfl rfl rfl rfl ?_
      refine h_iload_n (pc' := 13) rfl rfl rfl ?_
      refine h_iload_n (pc' := 14) rfl rfl rfl ?_
      refine h_iadd (pc' := 15) rfl rfl ci_88 hy3 rfl (by omega) (by omega) (fun z2 hz2 => ?_)
      refine h_aload_n (pc' := 16) rfl rfl rfl ?_
      refine h_getR (pc' := 19) rfl rfl rfl rfl rfl ?_
      refine h_iload_n (pc' := 20) rfl rfl rfl ?_
      refine h_iload_n (pc' := 21) rfl rfl rfl ?_
      refine h_iadd (pc' := 22) rfl rfl ci_0 hy3 rfl (by omega) (by omega) (fun z3 hz3 => ?_)
      refine h_iald (pc' := 23) (v := σ 99 (0 + b3)) rfl rfl rfl hz3 (by omega) (by omega) (F0_ 99 _ (k_no (l := 0) (h := 43) rfl (by omega) (by omega))) (fun z4 hz4 => ?_)
      have tz4 := h_rng z4
      rw [hz4] at tz4
      refine h_iast (pc' := 24) rfl rfl rfl rfl hz2 (by omega) (by omega) hz4 (h_fgt (E := fun s => s 98 13 = s0 98 13 ∧ s = h_up s0 99 (88 + b3) (σ 99 (0 + b3))) _ (im_99 (i := (0 + b3)) I0 (by omega) (hI 99 (0 + b3))) (F0_.up (k_ipg (p := 2) rfl rfl (by omega))) ⟨rfl, rfl⟩ (fun s5 Is5 Fs5 (es5 : s5 98 13 = s0 98 13 ∧ s5 = h_up s0 99 (88 + b3) (σ 99 (0 + b3))) => ?_))
      have us5 := es5.2
      refine h_iinc (pc' := 27) (M := fun z6 => [(3, .int z6), (0, .ref 98), (1, .int (Int32.ofInt 0)), (2, .int (Int32.ofInt 88))]) rfl rfl rfl rfl hy3 ci_1 rfl (by omega) (by omega) (fun _ => rfl) (fun z6 hz6 => ?_)
      refine h_goto (pc' := 2) rfl rfl ?_
      exact h_wk [(0, .ref 98), (1, .int (Int32.ofInt 0)), (2, .int (Int32.ofInt 88)), (3, .int z6)] ⟨rfl, rfl, rfl, rfl, trivial⟩ (ih _ Is5 Fs5 z6 _ hz6 (by omega) (cp_s (F := fun j => σ 99 (0 + j)) us5 rfl rfl ex0) (by omega))
set_option maxHeartbeats 100000000 in
set_option maxHeartbeats 100000000 in
theorem n_copies_0_88 {ns : Nat} (σ : h_S) (hI : h_I σ) {Q : Option Value → h_S → Prop} (kk : ∀ (τ : h_S), h_I τ → h_F (k_in kf_n_copies_0_88) τ σ → (∀ j, 0 ≤ j → j < 44 → τ 99 (88 + j) = σ 99 (0 + j)) → Q none τ) : h_T g_P (g_Y ns) 190 0 [(0, .ref 98), (1, .int (Int32.ofInt 0)), (2, .int (Int32.ofInt 88))] [] σ Q := by
  have F00 : h_F (k_in kf_n_copies_0_88) σ σ := h_F.rf
  refine h_iconst (pc' := 1) (x := (Int32.ofInt 0)) rfl rfl rfl ?_
  refine h_istore_n (pc' := 2) (M := [(3, .int (Int32.ofInt 0)), (0, .ref 98), (1, .int (Int32.ofInt 0)), (2, .int (Int32.ofInt 88))]) rfl rfl rfl rfl ?_
  exact h_wk [(0, .ref 98), (1, .int (Int32.ofInt 0)), (2, .int (Int32.ofInt 88)), (3, .int (Int32.ofInt 0))] ⟨rfl, rfl, rfl, rfl, trivial⟩ ((n_copies_0_88_l ns σ hI  kk 1000000000000) _ hI F00 (Int32.ofInt 0) _ ci_0 (by omega) (fun j a b => absurd b (by omega)) (by omega))
def kf_n_copies_44_0 : List Nat := [101888]
set_option maxHeartbeats 100000000 in
set_option maxHeartbeats 100000000 in
theorem n_copies_44_0_l (ns : Nat) (σ : h_S) (hI : h_I σ) {Q : Option Value → h_S → Prop} (kk : ∀ (τ : h_S), h_I τ → h_F (k_in kf_n_copies_44_0) τ σ → (∀ j, 0 ≤ j → j < 44 → τ 99 (0 + j) = σ 99 (44 + j)) → Q none τ) : ∀ n : Nat, (∀ (s0 : h_S), h_I s0 → h_F (k_in kf_n_copies_44_0) s0 σ → ∀ (y3 : Int32) (b3 : Int), y3.toInt = b3 → (0 ≤ b3 ∧ b3 ≤ 44) → (∀ j, 0 ≤ j → j < b3 → s0 99 (0 + j) = σ 99 (44 + j)) → (44 + 1 - b3) * 1000000 + 1000000000 ≤ (n : Int) → h_T g_P (g_Y ns) 190 2 [(0, .ref 98), (1, .int (Int32.ofInt 44)), (2, .int (Int32.ofInt 0)), (3, .int y3)] [] s0 Q) := by
  intro n
  induction n with
  | zero => exact by intro s0 I0 F0_ y3 b3 hy3 ry3 ex0 hm; exfalso; omega
  | succ n ih =>
    intro s0 I0 F0_ y3 b3 hy3 ry3 ex0 hm
    refine h_iload_n (pc' := 3) rfl rfl rfl ?_
    refine h_bipush (pc' := 5) (x := (Int32.ofInt 44)) rfl rfl cb_44 ?_
    refine h_cge (tg := 30) (pc' := 8) rfl rfl rfl hy3 ci_44 (fun c1 => ?_) (fun c1 => ?_)
    · exact h_vret rfl rfl (kk _ I0 F0_ (fun j a b => ex0 j a (by omega)))
    · refine h_aload_n (pc' := 9) rfl rfl rfl ?_
      refine h_getR (pc' := 12) rfl rfl rfl rfl rfl ?_
      refine h_iload_n (pc' := 13) rfl rfl rfl ?_
      refine h_iload_n (pc' := 14) rfl rfl rfl ?_
      refine h_iadd (pc' := 15) rfl rfl ci_0 hy3 rfl (by omega) (by omega) (fun z2 hz2 => ?_)
      refine h_aload_n (pc' := 16) rfl rfl rfl ?_
      refine h_getR (pc' := 19) rfl rfl rfl rfl rfl ?_
      refine h_iload_n (pc' := 20) rfl rfl rfl ?_
      refine h_iload_n (pc' := 21) rfl rfl rfl ?_
      refine h_iadd (pc' := 22) rfl rfl ci_44 hy3 rfl (by omega) (by omega) (fun z3 hz3 => ?_)
      refine h_iald (pc' := 23) (v := σ 99 (44 + b3)) rfl rfl rfl hz3 (by omega) (by omega) (F0_ 99 _ (k_no (l := 44) (h := 87) rfl (by omega) (by omega))) (fun z4 hz4 => ?_)
      have tz4 := h_rng z4
      rw [hz4] at tz4
      refine h_iast (pc' := 24) rfl rfl rfl rfl hz2 (by omega) (by omega) hz4 (h_fgt (E := fun s => s 98 13 = s0 98 13 ∧ s = h_up s0 99 (0 + b3) (σ 99 (44 + b3))) _ (im_99 (i := (44 + b3)) I0 (by omega) (hI 99 (44 + b3))) (F0_.up (k_ipg (p := 0) rfl rfl (by omega))) ⟨rfl, rfl⟩ (fun s5 Is5 Fs5 (es5 : s5 98 13 = s0 98 13 ∧ s5 = h_up s0 99 (0 + b3) (σ 99 (44 + b3))) => ?_))
      have us5 := es5.2
      refine h_iinc (pc' := 27) (M := fun z6 => [(3, .int z6), (0, .ref 98), (1, .int (Int32.ofInt 44)), (2, .int (Int32.ofInt 0))]) rfl rfl rfl rfl hy3 ci_1 rfl (by omega) (by omega) (fun _ => rfl) (fun z6 hz6 => ?_)
      refine h_goto (pc' := 2) rfl rfl ?_
      exact h_wk [(0, .ref 98), (1, .int (Int32.ofInt 44)), (2, .int (Int32.ofInt 0)), (3, .int z6)] ⟨rfl, rfl, rfl, rfl, trivial⟩ (ih _ Is5 Fs5 z6 _ hz6 (by omega) (cp_s (F := fun j => σ 99 (44 + j)) us5 rfl rfl ex0) (by omega))
set_option maxHeartbeats 100000000 in
set_option maxHeartbeats 100000000 in
theorem n_copies_44_0 {ns : Nat} (σ : h_S) (hI : h_I σ) {Q : Option Value → h_S → Prop} (kk : ∀ (τ : h_S), h_I τ → h_F (k_in kf_n_copies_44_0) τ σ → (∀ j, 0 ≤ j → j < 44 → τ 99 (0 + j) = σ 99 (44 + j)) → Q none τ) : h_T g_P (g_Y ns) 190 0 [(0, .ref 98), (1, .int (Int32.ofInt 44)), (2, .int (Int32.ofInt 0))] [] σ Q := by
  have F00 : h_F (k_in kf_n_copies_44_0) σ σ := h_F.rf
  refine h_iconst (pc' := 1) (x := (Int32.ofInt 0)) rfl rfl rfl ?_
  refine h_istore_n (pc' := 2) (M := [(3, .int (Int32.ofInt 0)), (0, .ref 98), (1, .int (Int32.ofInt 44)), (2, .int (Int32.ofInt 0))]) rfl rfl rfl rfl ?_
  exact h_wk [(0, .ref 98), (1, .int (Int32.ofInt 44)), (2, .int (Int32.ofInt 0)), (3, .int (Int32.ofInt 0))] ⟨rfl, rfl, rfl, rfl, trivial⟩ ((n_copies_44_0_l ns σ hI  kk 1000000000000) _ hI F00 (Int32.ofInt 0) _ ci_0 (by omega) (fun j a b => absurd b (by omega)) (by omega))
def kf_n_copies_88_0 : List Nat := [101888]
set_option maxHeartbeats 100000000 in
set_option maxHeartbeats 100000000 in
theorem n_copies_88_0_l (ns : Nat) (σ : h_S) (hI : h_I σ) {Q : Option Value → h_S → Prop} (kk : ∀ (τ : h_S), h_I τ → h_F (k_in kf_n_copies_88_0) τ σ → (∀ j, 0 ≤ j → j < 44 → τ 99 (0 + j) = σ 99 (88 + j)) → Q none τ) : ∀ n : Nat, (∀ (s0 : h_S), h_I s0 → h_F (k_in kf_n_copies_88_0) s0 σ → ∀ (y3 : Int32) (b3 : Int), y3.toInt = b3 → (0 ≤ b3 ∧ b3 ≤ 44) → (∀ j, 0 ≤ j → j < b3 → s0 99 (0 + j) = σ 99 (88 + j)) → (44 + 1 - b3) * 1000000 + 1000000000 ≤ (n : Int) → h_T g_P (g_Y ns) 190 2 [(0, .ref 98), (1, .int (Int32.ofInt 88)), (2, .int (Int32.ofInt 0)), (3, .int y3)] [] s0 Q) := by
  intro n
  induction n with
  | zero => exact by intro s0 I0 F0_ y3 b3 hy3 ry3 ex0 hm; exfalso; omega
  | succ n ih =>
    intro s0 I0 F0_ y3 b3 hy3 ry3 ex0 hm
    refine h_iload_n (pc' := 3) rfl rfl rfl ?_
    refine h_bipush (pc' := 5) (x := (Int32.ofInt 44)) rfl rfl cb_44 ?_
    refine h_cge (tg := 30) (pc' := 8) rfl rfl rfl hy3 ci_44 (fun c1 => ?_) (fun c1 => ?_)
    · exact h_vret rfl rfl (kk _ I0 F0_ (fun j a b => ex0 j a (by omega)))
    · refine h_aload_n (pc' := 9) rfl rfl rfl ?_
      refine h_getR (pc' := 12) rfl rfl rfl rfl rfl ?_
      refine h_iload_n (pc' := 13) rfl rfl rfl ?_
      refine h_iload_n (pc' := 14) rfl rfl rfl ?_
      refine h_iadd (pc' := 15) rfl rfl ci_0 hy3 rfl (by omega) (by omega) (fun z2 hz2 => ?_)
      refine h_aload_n (pc' := 16) rfl rfl rfl ?_
      refine h_getR (pc' := 19) rfl rfl rfl rfl rfl ?_
      refine h_iload_n (pc' := 20) rfl rfl rfl ?_
      refine h_iload_n (pc' := 21) rfl rfl rfl ?_
      refine h_iadd (pc' := 22) rfl rfl ci_88 hy3 rfl (by omega) (by omega) (fun z3 hz3 => ?_)
      refine h_iald (pc' := 23) (v := σ 99 (88 + b3)) rfl rfl rfl hz3 (by omega) (by omega) (F0_ 99 _ (k_no (l := 88) (h := 131) rfl (by omega) (by omega))) (fun z4 hz4 => ?_)
      have tz4 := h_rng z4
      rw [hz4] at tz4
      refine h_iast (pc' := 24) rfl rfl rfl rfl hz2 (by omega) (by omega) hz4 (h_fgt (E := fun s => s 98 13 = s0 98 13 ∧ s = h_up s0 99 (0 + b3) (σ 99 (88 + b3))) _ (im_99 (i := (88 + b3)) I0 (by omega) (hI 99 (88 + b3))) (F0_.up (k_ipg (p := 0) rfl rfl (by omega))) ⟨rfl, rfl⟩ (fun s5 Is5 Fs5 (es5 : s5 98 13 = s0 98 13 ∧ s5 = h_up s0 99 (0 + b3) (σ 99 (88 + b3))) => ?_))
      have us5 := es5.2
      refine h_iinc (pc' := 27) (M := fun z6 => [(3, .int z6), (0, .ref 98), (1, .int (Int32.ofInt 88)), (2, .int (Int32.ofInt 0))]) rfl rfl rfl rfl hy3 ci_1 rfl (by omega) (by omega) (fun _ => rfl) (fun z6 hz6 => ?_)
      refine h_goto (pc' := 2) rfl rfl ?_
      exact h_wk [(0, .ref 98), (1, .int (Int32.ofInt 88)), (2, .int (Int32.ofInt 0)), (3, .int z6)] ⟨rfl, rfl, rfl, rfl, trivial⟩ (ih _ Is5 Fs5 z6 _ hz6 (by omega) (cp_s (F := fun j => σ 99 (88 + j)) us5 rfl rfl ex0) (by omega))
set_option maxHeartbeats 100000000 in
set_option maxHeartbeats 100000000 in
theorem n_copies_88_0 {ns : Nat} (σ : h_S) (hI : h_I σ) {Q : Option Value → h_S → Prop} (kk : ∀ (τ : h_S), h_I τ → h_F (k_in kf_n_copies_88_0) τ σ → (∀ j, 0 ≤ j → j < 44 → τ 99 (0 + j) = σ 99 (88 + j)) → Q none τ) : h_T g_P (g_Y ns) 190 0 [(0, .ref 98), (1, .int (Int32.ofInt 88)), (2, .int (Int32.ofInt 0))] [] σ Q := by
  have F00 : h_F (k_in kf_n_copies_88_0) σ σ := h_F.rf
  refine h_iconst (pc' := 1) (x := (Int32.ofInt 0)) rfl rfl rfl ?_
  refine h_istore_n (pc' := 2) (M := [(3, .int (Int32.ofInt 0)), (0, .ref 98), (1, .int (Int32.ofInt 88)), (2, .int (Int32.ofInt 0))]) rfl rfl rfl rfl ?_
  exact h_wk [(0, .ref 98), (1, .int (Int32.ofInt 88)), (2, .int (Int32.ofInt 0)), (3, .int (Int32.ofInt 0))] ⟨rfl, rfl, rfl, rfl, trivial⟩ ((n_copies_88_0_l ns σ hI  kk 1000000000000) _ hI F00 (Int32.ofInt 0) _ ci_0 (by omega) (fun j a b => absurd b (by omega)) (by omega))
