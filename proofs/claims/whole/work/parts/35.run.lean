-- ===== setting guards gives the invariant back =====
def GO (S : St) (p : Nat) : Prop := ∀ k, k < 11 → ∀ j, j < 3 → S (13 + 14 * p + 3 + 1 * k) j = gsp S (13 + 14 * p) k j
def PR (S M : St) : Prop := RelD S M ∧ (∀ p, p < 2 → S (13 + 14 * p) 2 = M 4 p) ∧ InvP S ∧ InvE S ∧ InvO S
theorem Rel.pr {S M : St} (h : Rel S M) : PR S M := ⟨h.1, h.2.1, h.2.2.1, h.2.2.2.1, h.2.2.2.2.1⟩
theorem Rel.go {S M : St} (h : Rel S M) : ∀ p, p < 2 → GO S p := h.2.2.2.2.2
theorem PR.rel {S M : St} (h : PR S M) (hg : ∀ p, p < 2 → GO S p) : Rel S M := ⟨h.1, h.2.1, h.2.2.1, h.2.2.2.1, h.2.2.2.2, hg⟩
theorem gLo_z {t t' f n : Int32} {j : Nat} (h : t = 0 ↔ t' = 0) : gLo t f n j = gLo t' f n j := by
  unfold gLo
  by_cases q : t' = 0
  · rw [if_pos q, if_pos (h.mpr q)]
  · rw [if_neg q, if_neg (fun w => q (h.mp w))]
theorem gUp_z {t t' f n r : Int32} {j : Nat} (h : t = 0 ↔ t' = 0) : gUp t f n r j = gUp t' f n r j := by
  unfold gUp
  by_cases q : t' = 0
  · rw [if_pos q, if_pos (h.mpr q)]
  · rw [if_neg q, if_neg (fun w => q (h.mp w))]
theorem gsp_cg {S T : St} {i : Nat} (hP : PeOK S i) (h1 : T i 2 = S i 2) (hz : ∀ e, e < 4 → (T (4 + 2 * e) 1 = 0 ↔ S (4 + 2 * e) 1 = 0)) (h2 : ∀ e, e < 4 → ∀ j, j = 2 ∨ j = 3 ∨ j = 5 → T (4 + 2 * e) j = S (4 + 2 * e) j) : ∀ k, k < 11 → ∀ j, gsp T i k j = gsp S i k j := by
  intro k hk j
  unfold gsp
  rw [h1]
  by_cases h0 : k = 0
  · rw [if_pos h0, if_pos h0]
  by_cases h10 : k = 10
  · rw [if_neg h0, if_pos h10, if_neg h0, if_pos h10]
  by_cases h9 : k = 9
  · rw [if_neg h0, if_neg h10, if_pos h9, if_neg h0, if_neg h10, if_pos h9, shV_congr (S := S) h1 (fun e he => h2 e he 5 (by simp)) hP]
  rw [if_neg h0, if_neg h10, if_neg h9, if_neg h0, if_neg h10, if_neg h9]
  have he : (k - 1) / 2 < 4 := by omega
  rw [h2 _ he 2 (by simp), h2 _ he 3 (by simp), gLo_z (hz _ he), gUp_z (hz _ he)]
theorem GO.tr {S T : St} {p : Nat} (h : GO S p) (hP : PeOK S (13 + 14 * p)) (hg : ∀ k, k < 11 → ∀ j, j < 3 → T (13 + 14 * p + 3 + 1 * k) j = S (13 + 14 * p + 3 + 1 * k) j) (h1 : T (13 + 14 * p) 2 = S (13 + 14 * p) 2) (hz : ∀ e, e < 4 → (T (4 + 2 * e) 1 = 0 ↔ S (4 + 2 * e) 1 = 0)) (h2 : ∀ e, e < 4 → ∀ j, j = 2 ∨ j = 3 ∨ j = 5 → T (4 + 2 * e) j = S (4 + 2 * e) j) : GO T p := by
  intro k hk j hj
  rw [hg k hk j hj, h k hk j hj, gsp_cg hP h1 hz h2 k hk j]
theorem InvP.cg {S T : St} (hP : InvP S) (h3 : ∀ p, p < 2 → T (13 + 14 * p) 2 = S (13 + 14 * p) 2) (h2 : ∀ e, e < 4 → T (4 + 2 * e) 1 = S (4 + 2 * e) 1) : InvP T := by
  refine ⟨fun p hp => ?_, ?_⟩
  · rw [h3 p hp]
    rcases hP.1 p hp with q | ⟨e, he, q1, q2⟩
    · exact Or.inl q
    · exact Or.inr ⟨e, he, q1, by rw [h2 e he]; exact q2⟩
  · have a := h3 0 (by decide)
    have b := h3 1 (by decide)
    intro q
    rw [show (13 : Nat) = 13 + 14 * 0 from rfl, a] at q ⊢
    rw [show (27 : Nat) = 13 + 14 * 1 from rfl, b] at q
    exact hP.2 q
theorem InvE.cg {S T : St} (hE : InvE S) (hz : ∀ e, e < 4 → (T (4 + 2 * e) 1 = 0 ↔ S (4 + 2 * e) 1 = 0)) (ht : ∀ e, e < 4 → ∃ t, t < 6 ∧ T (4 + 2 * e) 1 = nI t) (h2 : ∀ e, e < 4 → ∀ j, j = 2 ∨ j = 3 ∨ j = 5 → T (4 + 2 * e) j = S (4 + 2 * e) j) : InvE T := by
  refine ⟨fun e he h0 => ?_, ht⟩
  obtain ⟨a, b, c, d, f, g⟩ := hE.1 e he (fun q => h0 ((hz e he).mpr q))
  unfold EnI fE nE
  rw [h2 e he 2 (by simp), h2 e he 3 (by simp), h2 e he 5 (by simp)]
  exact ⟨a, b, c, d, f, g⟩
theorem InvO.cg {S T : St} (hO : InvO S) (h1 : ∀ g, g < 16 → T 2 g = S 2 g) (hz : ∀ e, e < 4 → (T (4 + 2 * e) 1 = 0 ↔ S (4 + 2 * e) 1 = 0)) (h2 : ∀ e, e < 4 → ∀ j, j = 2 ∨ j = 3 ∨ j = 5 → T (4 + 2 * e) j = S (4 + 2 * e) j) : InvO T := by
  refine ⟨by rw [h1 0 (by decide)]; exact hO.1, fun g hg1 hg => by rw [h1 g hg]; exact hO.2.1 g hg1 hg, fun e he g hg => ?_⟩
  unfold fE nE
  rw [h1 g hg, h2 e he 2 (by simp), h2 e he 3 (by simp), hO.2.2 e he g hg]
  unfold fE nE
  constructor
  · rintro ⟨a, b⟩
    exact ⟨fun q => a ((hz e he).mp q), b⟩
  · rintro ⟨a, b⟩
    exact ⟨fun q => a ((hz e he).mpr q), b⟩
theorem REn.cg {S T M : St} {e : Nat} (h : REn S M e) (hS : T (4 + 2 * e) = S (4 + 2 * e)) (hS2 : T (4 + 2 * e + 1) = S (4 + 2 * e + 1)) : REn T M e := by
  unfold REn
  rw [hS, hS2]
  exact h
theorem PR.set {T M : St} {p : Nat} (hp : p < 2) (h : PR T M) : PR (sGs T (13 + 14 * p)) M ∧ GO (sGs T (13 + 14 * p)) p ∧ ∀ p', p' < 2 → p' ≠ p → GO T p' → GO (sGs T (13 + 14 * p)) p' := by
  obtain ⟨⟨a1, a2, a3, a4, a5, a6⟩, b, hP, hE, hO⟩ := h
  have hne : ∀ c, c < 13 + 14 * p + 3 ∨ 13 + 14 * p + 3 + 11 ≤ c → sGs T (13 + 14 * p) c = T c := fun c hc => sGs_ne hc
  have e2 : ∀ e, e < 4 → sGs T (13 + 14 * p) (4 + 2 * e) = T (4 + 2 * e) := fun e he => hne _ (by omega)
  have e3 : ∀ p', p' < 2 → sGs T (13 + 14 * p) (13 + 14 * p') 2 = T (13 + 14 * p') 2 := fun p' hp' => by rw [hne _ (by omega)]
  have hgc : ∀ p', p' < 2 → ∀ k, k < 11 → ∀ j, gsp (sGs T (13 + 14 * p)) (13 + 14 * p') k j = gsp T (13 + 14 * p') k j := fun p' hp' => gsp_congr (hP.ok p' hp') (e3 p' hp') (fun e he j _ => by rw [e2 e he])
  refine ⟨⟨⟨by rw [hne 0 (by omega)]; exact a1, by rw [hne 0 (by omega)]; exact a2, fun a ha => by rw [hne 1 (by omega)]; exact a3 a ha, fun g hg => by rw [hne 2 (by omega)]; exact a4 g hg, fun p' hp' k hk => by rw [hne _ (by omega)]; exact a5 p' hp' k hk, fun e he => (a6 e he).cg (e2 e he) (hne _ (by omega))⟩, fun p' hp' => by rw [e3 p' hp']; exact b p' hp', hP.cg e3 (fun e he => by rw [e2 e he]), hE.cg (fun e he => by rw [e2 e he]) (fun e he => by rw [e2 e he]; exact hE.2 e he) (fun e he j _ => by rw [e2 e he]), hO.cg (fun g _ => by rw [hne 2 (by omega)]) (fun e he => by rw [e2 e he]) (fun e he j _ => by rw [e2 e he])⟩, ?_, ?_⟩
  · intro k hk j hj
    rw [sGs_gsp (by omega) (hP.ok p hp) k hk j hj, hgc p hp k hk j]
  · intro p' hp' hne' hg k hk j hj
    rw [hne _ (by omega), hg k hk j hj, hgc p' hp' k hk j]
theorem PR.one {T M : St} {p : Nat} (hp : p < 2) (h : PR T M) (hg : ∀ p', p' < 2 → p' ≠ p → GO T p') : Rel (sGs T (13 + 14 * p)) M := by
  obtain ⟨h1, h2, h3⟩ := h.set hp
  refine h1.rel (fun p' hp' => ?_)
  by_cases q : p' = p
  · rw [q]; exact h2
  · exact h3 p' hp' q (hg p' hp' q)
theorem PR.all {T M : St} (h : PR T M) : Rel (sAll T) M := by
  obtain ⟨h1, h2, -⟩ := h.set (p := 0) (by decide)
  refine PR.one (p := 1) (by decide) h1 (fun p' hp' hq => ?_)
  rw [show p' = 0 by omega]
  exact h2
-- ===== run =====
theorem sStart_at {S : St} {i c j : Nat} {v : Int32} : sStart S i v c j = if c = i ∧ j = 7 then S i 4 else if c = i + 1 ∧ j < 8 then (if j = 1 then v else 0) else S c j := by
  unfold sStart
  rw [up2_at]
  by_cases h1 : c = i ∧ j = 7
  · rw [if_pos h1, if_pos h1, up2_at, if_neg (by omega)]
    unfold fil
    rw [if_neg (by omega)]
  · rw [if_neg h1, if_neg h1, up2_at]
    by_cases h2 : c = i + 1 ∧ j = 1
    · rw [if_pos h2, if_pos (show c = i + 1 ∧ j < 8 by omega), if_pos h2.2]
    · rw [if_neg h2]
      unfold fil
      by_cases h3 : c = i + 1 ∧ j < 8
      · rw [if_pos (show c = i + 1 ∧ 0 ≤ j ∧ j < 8 by omega), if_pos h3, if_neg (show ¬ j = 1 by omega)]
      · rw [if_neg (show ¬ (c = i + 1 ∧ 0 ≤ j ∧ j < 8) by omega), if_neg h3]
theorem tSt_at {M : St} {e c j : Nat} {v : Int32} (he : e < 4) : tSt M (nI e) v c j = if c = 12 ∧ j = e then M 8 e else if c = 13 ∧ 8 * e ≤ j ∧ j < 8 * e + 8 then (if j = 8 * e + 1 then v else 0) else M c j := by
  unfold tSt
  rw [nI_clamp (by omega), up2_at]
  by_cases h1 : c = 12 ∧ j = e
  · rw [if_pos h1, if_pos h1]
    unfold rgM
    rw [if_neg (by omega)]
  · rw [if_neg h1, if_neg h1]
    rfl
/-- the enclave e is put on the processor p -/
theorem go_rel {S M : St} {p e : Nat} {t : Int32} (hp : p < 2) (he : e < 4) (h : PR S M) (hg : ∀ p', p' < 2 → GO S p') (ht : S (4 + 2 * e) 1 = t) (ht2 : t = 1 ∨ t = 3) (hfree : S (13 + 14 * p) 2 = -1) (hpc : S (4 + 2 * e) 7 = M 12 e) (hrg : ∀ k, k < 8 → S (4 + 2 * e + 1) k = M 13 (8 * e + k)) : Rel (goS S (nI p) (nI e)) (tGo M (nI p) (nI e)) := by
  unfold goS tGo
  rw [nI_clamp (by omega), nI_clamp (by omega)]
  obtain ⟨⟨a1, a2, a3, a4, a5, a6⟩, b, hP, hE, hO⟩ := h
  have ht0 : ¬ S (4 + 2 * e) 1 = 0 := by rw [ht]; rcases ht2 with rfl | rfl <;> decide
  have ht2' : ¬ S (4 + 2 * e) 1 = 2 := by rw [ht]; rcases ht2 with rfl | rfl <;> decide
  have hcell : ∀ c j, ¬ (c = 4 + 2 * e ∧ j = 1) → ¬ (c = 13 + 14 * p ∧ j = 2) → up2 (up2 S (4 + 2 * e) 1 2) (13 + 14 * p) 2 (nI e) c j = S c j := fun c j q1 q2 => by rw [up2_at, if_neg q2, up2_at, if_neg q1]
  have hst : up2 (up2 S (4 + 2 * e) 1 2) (13 + 14 * p) 2 (nI e) (4 + 2 * e) 1 = 2 := by rw [up2_at, if_neg (by omega), up2_at, if_pos ⟨rfl, rfl⟩]
  have hpe : up2 (up2 S (4 + 2 * e) 1 2) (13 + 14 * p) 2 (nI e) (13 + 14 * p) 2 = nI e := by rw [up2_at, if_pos ⟨rfl, rfl⟩]
  have hz : ∀ e', e' < 4 → (up2 (up2 S (4 + 2 * e) 1 2) (13 + 14 * p) 2 (nI e) (4 + 2 * e') 1 = 0 ↔ S (4 + 2 * e') 1 = 0) := by
    intro e' he'
    by_cases q : e' = e
    · rw [q, hst]
      exact ⟨fun w => absurd w (by decide), fun w => absurd w ht0⟩
    · rw [hcell _ _ (by omega) (by omega)]
  have h2 : ∀ e', e' < 4 → ∀ j, j = 2 ∨ j = 3 ∨ j = 5 → up2 (up2 S (4 + 2 * e) 1 2) (13 + 14 * p) 2 (nI e) (4 + 2 * e') j = S (4 + 2 * e') j := fun e' he' j hj => hcell _ _ (by omega) (by omega)
  have hother : ∀ p', p' < 2 → p' ≠ p → ∀ e', e' < 4 → S (13 + 14 * p') 2 = nI e' → S (4 + 2 * e') 1 = 2 → e' ≠ e := fun p' _ _ e' _ _ q2 q => ht2' (by rw [← q]; exact q2)
  refine PR.one hp ⟨⟨?_, ?_, fun a ha => ?_, fun g hg => ?_, fun p' hp' k hk => ?_, fun e' he' => ?_⟩, fun p' hp' => ?_, ⟨fun p' hp' => ?_, ?_⟩, hE.cg hz (fun e' he' => ?_) h2, hO.cg (fun g _ => ?_) hz h2⟩ (fun p' hp' hq => (hg p' hp').tr (hP.ok p' hp') (fun k hk j hj => ?_) ?_ hz h2)
  · rw [hcell _ _ (by omega) (by omega), up2_ne (by omega), up2_ne (by omega)]; exact a1
  · rw [hcell _ _ (by omega) (by omega), up2_ne (by omega), up2_ne (by omega)]; exact a2
  · rw [hcell _ _ (by omega) (by omega), up2_ne (by omega), up2_ne (by omega)]; exact a3 a ha
  · rw [hcell _ _ (by omega) (by omega), up2_ne (by omega), up2_ne (by omega)]; exact a4 g hg
  · rw [hcell _ _ (by omega) (by omega), up2_ne (by omega), up2_ne (by omega)]; exact a5 p' hp' k hk
  · by_cases q : e' = e
    · subst q
      obtain ⟨r1, r2, r3, r4⟩ := a6 e' he'
      have m5 : up2 (up2 M 5 e' 2) 4 p (nI e') 5 e' = 2 := by rw [up2_ne (by omega), up2_at, if_pos ⟨rfl, rfl⟩]
      have mo : ∀ c, c ≠ 4 → c ≠ 5 → up2 (up2 M 5 e' 2) 4 p (nI e') c = M c := fun c q1 q2 => by rw [up2_ne q1, up2_ne q2]
      refine ⟨by rw [hst, m5], fun _ => ?_, ?_, fun _ => ⟨?_, fun k hk => ?_⟩⟩
      · rw [hcell _ _ (by omega) (by omega), hcell _ _ (by omega) (by omega), hcell _ _ (by omega) (by omega), hcell _ _ (by omega) (by omega), hcell _ _ (by omega) (by omega), mo 6 (by decide) (by decide), mo 7 (by decide) (by decide), mo 8 (by decide) (by decide), mo 9 (by decide) (by decide), mo 10 (by decide) (by decide)]
        exact r2 (by rw [← r1]; exact ht0)
      · rw [hcell _ _ (by omega) (by omega), mo 11 (by decide) (by decide)]; exact r3
      · rw [hcell _ _ (by omega) (by omega), mo 12 (by decide) (by decide)]; exact hpc
      · rw [hcell _ _ (by omega) (by omega), mo 13 (by decide) (by decide)]; exact hrg k hk
    · refine (a6 e' he').of (fun j => hcell _ _ (by omega) (by omega)) (fun k _ => hcell _ _ (by omega) (by omega)) (fun c h5 h12 => ?_) (fun k _ => ?_)
      · rw [up2_ne (by omega), up2_at, if_neg (by omega)]
      · rw [up2_ne (by omega), up2_ne (by omega)]
  · by_cases q : p' = p
    · rw [q, hpe, up2_at, if_pos ⟨rfl, rfl⟩]
    · rw [hcell _ _ (by omega) (by omega), up2_at, if_neg (by omega), up2_ne (by omega)]; exact b p' hp'
  · by_cases q : p' = p
    · rw [q, hpe]
      exact Or.inr ⟨e, he, rfl, hst⟩
    · rw [hcell _ _ (by omega) (by omega)]
      rcases hP.1 p' hp' with w | ⟨e', he', w1, w2⟩
      · exact Or.inl w
      · exact Or.inr ⟨e', he', w1, by rw [hcell _ _ (by have := hother p' hp' q e' he' w1 w2; omega) (by omega)]; exact w2⟩
  · intro q
    have hp01 : p = 0 ∨ p = 1 := by omega
    rcases hp01 with rfl | rfl
    · rw [show (13 : Nat) = 13 + 14 * 0 from rfl, hpe, hcell 27 2 (by omega) (by omega)] at q
      rcases hP.1 1 (by decide) with w | ⟨e', he', w1, w2⟩
      · rw [show (27 : Nat) = 13 + 14 * 1 from rfl, w] at q
        exact absurd q (m1_ne (by omega))
      · rw [show (27 : Nat) = 13 + 14 * 1 from rfl, w1] at q
        exact absurd ((nI_eq (by omega) (by omega)).mp q).symm (hother 1 (by decide) (by decide) e' he' w1 w2)
    · rw [show (27 : Nat) = 13 + 14 * 1 from rfl, hpe, hcell 13 2 (by omega) (by omega)] at q
      rcases hP.1 0 (by decide) with w | ⟨e', he', w1, w2⟩
      · rw [hcell 13 2 (by omega) (by omega)]; exact w
      · rw [show (13 : Nat) = 13 + 14 * 0 from rfl, w1] at q
        exact absurd ((nI_eq (by omega) (by omega)).mp q) (hother 0 (by decide) (by decide) e' he' w1 w2)
  · by_cases q : e' = e
    · rw [q, hst]; exact ⟨2, by decide, rfl⟩
    · rw [hcell _ _ (by omega) (by omega)]; exact hE.2 e' he'
  · exact hcell _ _ (by omega) (by omega)
  · exact hcell _ _ (by omega) (by omega)
  · exact hcell _ _ (by omega) (by omega)
