theorem ten_at {M : St} {e c j : Nat} {v : Int32} (he : e < 4) (h1 : ¬ (c = 12 ∧ j = e)) (h2 : ¬ (c = 13 ∧ 8 * e ≤ j ∧ j < 8 * e + 8)) : tSt M (nI e) v c j = M c j := by
  rw [tSt_at he, if_neg h1, if_neg h2]
theorem sst_at {S : St} {i c j : Nat} {v : Int32} (h1 : ¬ (c = i ∧ j = 7)) (h2 : ¬ (c = i + 1 ∧ j < 8)) : sStart S i v c j = S c j := by
  rw [sStart_at, if_neg h1, if_neg h2]
theorem start_pr {S M : St} {e : Nat} {v : Int32} (he : e < 4) (hR : Rel S M) (h1 : S (4 + 2 * e) 1 = 1) : PR (sStart S (4 + 2 * e) v) (tSt M (nI e) v) ∧ ∀ p', p' < 2 → GO (sStart S (4 + 2 * e) v) p' := by
  obtain ⟨⟨a1, a2, a3, a4, a5, a6⟩, b, hP, hE, hO, hG⟩ := hR
  have h2 : ∀ e', e' < 4 → ∀ j, j ≠ 7 → sStart S (4 + 2 * e) v (4 + 2 * e') j = S (4 + 2 * e') j := fun e' he' j hj => sst_at (by omega) (by omega)
  have hz : ∀ e', e' < 4 → (sStart S (4 + 2 * e) v (4 + 2 * e') 1 = 0 ↔ S (4 + 2 * e') 1 = 0) := fun e' he' => by rw [h2 e' he' 1 (by decide)]
  have h3 : ∀ e', e' < 4 → ∀ j, j = 2 ∨ j = 3 ∨ j = 5 → sStart S (4 + 2 * e) v (4 + 2 * e') j = S (4 + 2 * e') j := fun e' he' j hj => h2 e' he' j (by omega)
  refine ⟨⟨⟨?_, ?_, fun a ha => ?_, fun g hg => ?_, fun p' hp' k hk => ?_, fun e' he' => ?_⟩, fun p' hp' => ?_, hP.cg (fun p' hp' => sst_at (by omega) (by omega)) (fun e' he' => h2 e' he' 1 (by decide)), hE.cg hz (fun e' he' => by rw [h2 e' he' 1 (by decide)]; exact hE.2 e' he') h3, hO.cg (fun g _ => sst_at (by omega) (by omega)) hz h3⟩, fun p' hp' => GO.tr (hG p' hp') (hP.ok p' hp') (fun k hk j hj => sst_at (by omega) (by omega)) (sst_at (by omega) (by omega)) hz h3⟩
  · rw [sst_at (by omega) (by omega), ten_at he (by omega) (by omega)]; exact a1
  · rw [sst_at (by omega) (by omega), ten_at he (by omega) (by omega)]; exact a2
  · rw [sst_at (by omega) (by omega), ten_at he (by omega) (by omega)]; exact a3 a ha
  · rw [sst_at (by omega) (by omega), ten_at he (by omega) (by omega)]; exact a4 g hg
  · rw [sst_at (by omega) (by omega), ten_at he (by omega) (by omega)]; exact a5 p' hp' k hk
  · by_cases q : e' = e
    · subst q
      obtain ⟨r1, r2, r3, r4⟩ := a6 e' he'
      have m5 : M 5 e' = 1 := by rw [← r1, h1]
      refine ⟨by rw [sst_at (by omega) (by omega), ten_at he (by omega) (by omega)]; exact r1, fun _ => ?_, by rw [sst_at (by omega) (by omega), ten_at he (by omega) (by omega)]; exact r3, fun w => ?_⟩
      · rw [sst_at (by omega) (by omega), sst_at (by omega) (by omega), sst_at (by omega) (by omega), sst_at (by omega) (by omega), sst_at (by omega) (by omega), ten_at he (by omega) (by omega), ten_at he (by omega) (by omega), ten_at he (by omega) (by omega), ten_at he (by omega) (by omega), ten_at he (by omega) (by omega)]
        exact r2 (by rw [m5]; decide)
      · rw [ten_at he (by omega) (by omega), m5] at w
        rcases w with w | w <;> exact absurd w (by decide)
    · refine (a6 e' he').of (fun j => sst_at (by omega) (by omega)) (fun k hk => sst_at (by omega) (by omega)) (fun c h5 h12 => ten_at he (by omega) (by omega)) (fun k hk => ten_at he (by omega) (by omega))
  · rw [sst_at (by omega) (by omega), ten_at he (by omega) (by omega)]; exact b p' hp'
theorem R_Run {S M : St} (hR : Rel S M) (z q v : Int32) : vRun S z q = wRun M z q ∧ Rel (sRun S z q v) (tRun M z q v) := by
  unfold vRun wRun sRun tRun
  rw [busy_eq hR, thr_eq hR]
  by_cases h : bsM M z = true
  · rw [if_pos h, if_pos h, if_pos h, if_pos h]; exact ⟨rfl, hR⟩
  · have hb : bsM M z = false := by simpa using h
    rw [if_neg h, if_neg h, if_neg h, if_neg h]
    have hfree : S (13 + 14 * z.toNatClampNeg) 2 = -1 := busy_no (by rw [busy_eq hR]; exact hb)
    obtain ⟨p, hp, rfl⟩ := bs_p hb
    rw [nI_clamp (by omega)] at hfree
    by_cases h2 : thM M q = false
    · rw [if_pos h2, if_pos h2, if_pos h2, if_pos h2]; exact ⟨rfl, hR⟩
    · rw [if_neg h2, if_neg h2, if_neg h2, if_neg h2]
      obtain ⟨e, he, rfl⟩ := inr_ex (k := 4) (by decide) rfl (thM_in (show thM M q = true by simpa using h2))
      rw [nI_clamp (by omega)]
      obtain ⟨r1, r2, r3, r4⟩ := hR.1.2.2.2.2.2 e he
      by_cases h3 : M 5 e = 1
      · have h3' : S (4 + 2 * e) 1 = 1 := r1.trans h3
        rw [if_pos h3, if_pos h3, if_pos h3', if_pos h3']
        refine ⟨rfl, ?_⟩
        obtain ⟨s1, s2⟩ := start_pr (v := v) he hR h3'
        refine go_rel (t := 1) hp he s1 s2 (by rw [sst_at (by omega) (by omega)]; exact h3') (Or.inl rfl) (by rw [sst_at (by omega) (by omega)]; exact hfree) ?_ (fun k hk => ?_)
        · rw [sStart_at, if_pos ⟨rfl, rfl⟩, tSt_at he, if_pos ⟨rfl, rfl⟩]
          exact (r2 (by rw [h3]; decide)).2.2.1
        · have e1 : sStart S (4 + 2 * e) v (4 + 2 * e + 1) k = if k = 1 then v else 0 := by rw [sStart_at, if_neg (by omega), if_pos ⟨rfl, hk⟩]
          have e2 : tSt M (nI e) v 13 (8 * e + k) = if 8 * e + k = 8 * e + 1 then v else 0 := by rw [tSt_at he, if_neg (by omega), if_pos ⟨rfl, by omega, by omega⟩]
          rw [e1, e2]
          by_cases hk1 : k = 1
          · rw [if_pos hk1, if_pos (by omega)]
          · rw [if_neg hk1, if_neg (by omega)]
      · have h3' : ¬ S (4 + 2 * e) 1 = 1 := fun w => h3 (r1.symm.trans w)
        rw [if_neg h3, if_neg h3, if_neg h3', if_neg h3']
        by_cases h4 : M 5 e = 3
        · have h4' : S (4 + 2 * e) 1 = 3 := r1.trans h4
          rw [if_pos h4, if_pos h4, if_pos h4', if_pos h4']
          obtain ⟨r5, r6⟩ := r4 (Or.inr h4)
          exact ⟨rfl, go_rel (t := 3) hp he hR.pr hR.go h4' (Or.inr rfl) hfree r5 r6⟩
        · have h4' : ¬ S (4 + 2 * e) 1 = 3 := fun w => h4 (r1.symm.trans w)
          rw [if_neg h4, if_neg h4, if_neg h4', if_neg h4']
          exact ⟨rfl, hR⟩
-- ===== an enclave leaves its processor =====
theorem leave_rel {S M S1 M1 : St} {p e t : Nat} (hp : p < 2) (he : e < 4) (hR : Rel S M) (hpe : S (13 + 14 * p) 2 = nI e) (hst : S (4 + 2 * e) 1 = 2) (ht : t = 3 ∨ t = 4 ∨ t = 5)
    (hS1 : ∀ c j, ¬ (c = 4 + 2 * e ∧ (j = 1 ∨ j = 7 ∨ j = 8)) → S1 c j = S c j) (hM1 : ∀ c j, ¬ (c = 5 ∧ j = e) → ¬ (c = 11 ∧ j = e) → ¬ (c = 12 ∧ j = e) → ¬ (c = 4 ∧ j = p) → M1 c j = M c j)
    (h1 : S1 (4 + 2 * e) 1 = nI t) (h2 : M1 5 e = nI t) (h3 : M1 4 p = -1) (h4 : S1 (4 + 2 * e) 8 = M1 11 e) (h5 : t = 3 → S1 (4 + 2 * e) 7 = M1 12 e) : Rel (sGs (up2 S1 (13 + 14 * p) 2 (-1)) (13 + 14 * p)) M1 := by
  obtain ⟨⟨a1, a2, a3, a4, a5, a6⟩, b, hP, hE, hO, hG⟩ := hR
  have hcell : ∀ c j, ¬ (c = 4 + 2 * e ∧ (j = 1 ∨ j = 7 ∨ j = 8)) → ¬ (c = 13 + 14 * p ∧ j = 2) → up2 S1 (13 + 14 * p) 2 (-1) c j = S c j := fun c j q1 q2 => by rw [up2_at, if_neg q2]; exact hS1 c j q1
  have he1 : ∀ j, up2 S1 (13 + 14 * p) 2 (-1) (4 + 2 * e) j = S1 (4 + 2 * e) j := fun j => by rw [up2_at, if_neg (by omega)]
  have hpe' : up2 S1 (13 + 14 * p) 2 (-1) (13 + 14 * p) 2 = -1 := by rw [up2_at, if_pos ⟨rfl, rfl⟩]
  have ht0 : ¬ nI t = 0 := nI_ne0 (by omega) (by omega)
  have hz : ∀ e', e' < 4 → (up2 S1 (13 + 14 * p) 2 (-1) (4 + 2 * e') 1 = 0 ↔ S (4 + 2 * e') 1 = 0) := by
    intro e' he'
    by_cases q : e' = e
    · rw [q, he1, h1, hst]
      exact ⟨fun w => absurd w ht0, fun w => absurd w (by decide)⟩
    · rw [hcell _ _ (by omega) (by omega)]
  have g2 : ∀ e', e' < 4 → ∀ j, j = 2 ∨ j = 3 ∨ j = 5 → up2 S1 (13 + 14 * p) 2 (-1) (4 + 2 * e') j = S (4 + 2 * e') j := fun e' he' j hj => hcell _ _ (by omega) (by omega)
  have hother : ∀ p', p' < 2 → p' ≠ p → ∀ e', e' < 4 → S (13 + 14 * p') 2 = nI e' → e' ≠ e := by
    intro p' hp' hq e' he' w1 q
    rw [q, ← hpe] at w1
    have := hP.2
    have hp01 : (p = 0 ∧ p' = 1) ∨ (p = 1 ∧ p' = 0) := by omega
    rcases hp01 with ⟨rfl, rfl⟩ | ⟨rfl, rfl⟩
    · have w := this w1.symm
      rw [show (13 : Nat) = 13 + 14 * 0 from rfl, hpe] at w
      exact absurd w (m1_ne (by omega))
    · have w := this w1
      rw [show (13 : Nat) = 13 + 14 * 0 from rfl, w1, hpe] at w
      exact absurd w (m1_ne (by omega))
  refine PR.one hp ⟨⟨?_, ?_, fun a ha => ?_, fun g hg => ?_, fun p' hp' k hk => ?_, fun e' he' => ?_⟩, fun p' hp' => ?_, ⟨fun p' hp' => ?_, ?_⟩, hE.cg hz (fun e' he' => ?_) g2, hO.cg (fun g _ => ?_) hz g2⟩ (fun p' hp' hq => GO.tr (hG p' hp') (hP.ok p' hp') (fun k hk j hj => ?_) ?_ hz g2)
  · rw [hcell _ _ (by omega) (by omega), hM1 _ _ (by omega) (by omega) (by omega) (by omega)]; exact a1
  · rw [hcell _ _ (by omega) (by omega), hM1 _ _ (by omega) (by omega) (by omega) (by omega)]; exact a2
  · rw [hcell _ _ (by omega) (by omega), hM1 _ _ (by omega) (by omega) (by omega) (by omega)]; exact a3 a ha
  · rw [hcell _ _ (by omega) (by omega), hM1 _ _ (by omega) (by omega) (by omega) (by omega)]; exact a4 g hg
  · rw [hcell _ _ (by omega) (by omega), hM1 _ _ (by omega) (by omega) (by omega) (by omega)]; exact a5 p' hp' k hk
  · by_cases q : e' = e
    · subst q
      obtain ⟨r1, r2, r3, r4⟩ := a6 e' he'
      have m2 : M 5 e' = 2 := by rw [← r1, hst]
      refine ⟨by rw [he1, h1, h2], fun _ => ?_, by rw [he1]; exact h4, fun w => ?_⟩
      · rw [hcell _ _ (by omega) (by omega), hcell _ _ (by omega) (by omega), hcell _ _ (by omega) (by omega), hcell _ _ (by omega) (by omega), hcell _ _ (by omega) (by omega), hM1 _ _ (by omega) (by omega) (by omega) (by omega), hM1 _ _ (by omega) (by omega) (by omega) (by omega), hM1 _ _ (by omega) (by omega) (by omega) (by omega), hM1 _ _ (by omega) (by omega) (by omega) (by omega), hM1 _ _ (by omega) (by omega) (by omega) (by omega)]
        exact r2 (by rw [m2]; decide)
      · rw [h2] at w
        have t3 : t = 3 := by
          rcases ht with rfl | rfl | rfl
          · rfl
          · rcases w with w | w <;> exact absurd w (by decide)
          · rcases w with w | w <;> exact absurd w (by decide)
        obtain ⟨-, r6⟩ := r4 (Or.inl m2)
        refine ⟨by rw [he1]; exact h5 t3, fun k hk => ?_⟩
        rw [hcell _ _ (by omega) (by omega), hM1 _ _ (by omega) (by omega) (by omega) (by omega)]
        exact r6 k hk
    · exact (a6 e' he').of (fun j => hcell _ _ (by omega) (by omega)) (fun k _ => hcell _ _ (by omega) (by omega)) (fun c h5 h12 => hM1 _ _ (by omega) (by omega) (by omega) (by omega)) (fun k _ => hM1 _ _ (by omega) (by omega) (by omega) (by omega))
  · by_cases q : p' = p
    · rw [q, hpe', h3]
    · rw [hcell _ _ (by omega) (by omega), hM1 _ _ (by omega) (by omega) (by omega) (by omega)]; exact b p' hp'
  · by_cases q : p' = p
    · rw [q, hpe']; exact Or.inl rfl
    · rw [hcell _ _ (by omega) (by omega)]
      rcases hP.1 p' hp' with w | ⟨e', he', w1, w2⟩
      · exact Or.inl w
      · exact Or.inr ⟨e', he', w1, by rw [hcell _ _ (by have := hother p' hp' q e' he' w1; omega) (by omega)]; exact w2⟩
  · intro q
    have hp01 : p = 0 ∨ p = 1 := by omega
    rcases hp01 with rfl | rfl
    · exact hpe'
    · rw [q]; exact hpe'
  · by_cases q : e' = e
    · rw [q, he1, h1]; exact ⟨t, by omega, rfl⟩
    · rw [hcell _ _ (by omega) (by omega)]; exact hE.2 e' he'
  · exact hcell _ _ (by omega) (by omega)
  · exact hcell _ _ (by omega) (by omega)
  · exact hcell _ _ (by omega) (by omega)
theorem lvM_at {M : St} {p e c j : Nat} {t : Int32} (h4 : M 4 p = nI e) (he : e < 4) : lvM M p t c j = if c = 4 ∧ j = p then -1 else if c = 5 ∧ j = e then t else M c j := by
  unfold lvM
  rw [up2_at, up2_at, h4, nI_clamp (by omega)]
theorem run_ex {S M : St} (hR : Rel S M) {z : Int32} (h : rnM M z = true) : ∃ p e, p < 2 ∧ z = nI p ∧ e < 4 ∧ S (13 + 14 * p) 2 = nI e ∧ S (4 + 2 * e) 1 = 2 ∧ M 4 p = nI e := by
  unfold rnM at h
  rw [Bool.and_eq_true] at h
  obtain ⟨p, hp, rfl⟩ := inr_ex (k := 2) (by decide) rfl h.1
  have h2 := h.2
  rw [nI_clamp (by omega)] at h2
  rcases hR.2.2.1.1 p hp with w | ⟨e, he, w1, w2⟩
  · rw [decide_eq_true ((pe_lt hR hp).mp w)] at h2
    cases h2
  · exact ⟨p, e, hp, rfl, he, w1, w2, by rw [← hR.2.1 p hp]; exact w1⟩
theorem R_int {S M : St} (hR : Rel S M) (z : Int32) : vInt S z = (if inr z 2 = true ∧ ¬ M 4 z.toNatClampNeg < 0 then M 4 z.toNatClampNeg else -1) ∧ Rel (sInt S z) (if inr z 2 = true ∧ ¬ M 4 z.toNatClampNeg < 0 then lvM M z.toNatClampNeg 3 else M) := by
  have hc : (inr z 2 = true ∧ ¬ M 4 z.toNatClampNeg < 0) ↔ rnM M z = true := by
    unfold rnM
    rw [Bool.and_eq_true]
    simp
  unfold vInt sInt
  rw [runs_eq hR]
  by_cases h : rnM M z = true
  · rw [if_pos h, if_pos h, if_pos (hc.mpr h), if_pos (hc.mpr h)]
    obtain ⟨p, e, hp, rfl, he, h1, h2, h3⟩ := run_ex hR h
    unfold enOf
    rw [nI_clamp (by omega), h1, nI_clamp (by omega), h3]
    refine ⟨rfl, ?_⟩
    refine leave_rel (t := 3) hp he hR h1 h2 (Or.inl rfl) (fun c j q => by rw [up2_at, if_neg (by omega)]) (fun c j q1 q2 q3 q4 => by rw [lvM_at h3 he, if_neg q4, if_neg q1]) (by rw [up2_at, if_pos ⟨rfl, rfl⟩]; rfl) (by rw [lvM_at h3 he, if_neg (by omega), if_pos ⟨rfl, rfl⟩]; rfl) (by rw [lvM_at h3 he, if_pos ⟨rfl, rfl⟩]) ?_ (fun _ => ?_)
    · rw [up2_at, if_neg (by omega), lvM_at h3 he, if_neg (by omega), if_neg (by omega)]
      exact (hR.1.2.2.2.2.2 e he).2.2.1
    · rw [up2_at, if_neg (by omega), lvM_at h3 he, if_neg (by omega), if_neg (by omega)]
      obtain ⟨r1, -, -, r4⟩ := hR.1.2.2.2.2.2 e he
      exact (r4 (Or.inl (by rw [← r1]; exact h2))).1
  · rw [if_neg h, if_neg h, if_neg (fun q => h (hc.mp q)), if_neg (fun q => h (hc.mp q))]
    exact ⟨rfl, hR⟩
