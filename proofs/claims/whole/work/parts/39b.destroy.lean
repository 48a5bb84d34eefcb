-- ===== destroy =====
def rmT (S : St) (k f n : Nat) : St := up2 (fil (fil S 1 (16 * f) (16 * (f + n)) 0) 2 f (f + n) 1) (4 + 2 * k) 1 0
theorem rmT_at {S : St} {k f n c j : Nat} : rmT S k f n c j = if c = 4 + 2 * k ∧ j = 1 then 0 else if c = 2 ∧ f ≤ j ∧ j < f + n then 1 else if c = 1 ∧ 16 * f ≤ j ∧ j < 16 * (f + n) then 0 else S c j := by
  unfold rmT
  rw [up2_at]
  rfl
theorem rmT_oth {S : St} {k f n c j : Nat} (h1 : ¬ (c = 4 + 2 * k ∧ j = 1)) (h2 : ¬ (c = 2 ∧ f ≤ j ∧ j < f + n)) (h3 : ¬ (c = 1 ∧ 16 * f ≤ j ∧ j < 16 * (f + n))) : rmT S k f n c j = S c j := by
  rw [rmT_at, if_neg h1, if_neg h2, if_neg h3]
theorem tD_at {M : St} {k c j : Nat} (hk : k < 4) : up2 (ozM (wzM M (nI k) 256) (nI k) 16) 5 k 0 c j = if c = 5 ∧ j = k then 0 else if c = 2 ∧ j < 16 then (if M 2 j = nI (2 + k) then 1 else M 2 j) else if c = 1 ∧ j < 256 then (if M 2 (j / 16) = nI (2 + k) then 0 else M 1 j) else M c j := by
  have e2k : 2 + nI k = nI (2 + k) := by rw [show (2 : Int32) = nI 2 from rfl, nI_add]
  rw [up2_at]
  by_cases h : c = 5 ∧ j = k
  · rw [if_pos h, if_pos h]
  · rw [if_neg h, if_neg h]
    unfold ozM
    rw [e2k, wzM_2]
    by_cases h2 : c = 2 ∧ j < 16
    · rw [if_pos h2, if_pos h2]
    · rw [if_neg h2, if_neg h2]
      unfold wzM
      rw [e2k]
theorem destroy_rel {S M : St} {k : Nat} (hR : Rel S M) (hk : k < 4) (h0 : ¬ M 5 k = 0) (h2 : ¬ M 5 k = 2) : Rel (sAll (rmT S k (fE S k) (nE S k))) (up2 (ozM (wzM M (nI k) 256) (nI k) 16) 5 k 0) := by
  obtain ⟨⟨a1, a2, a3, a4, a5, a6⟩, b, hP, hE, hO, -⟩ := hR
  have hk0 : ¬ S (4 + 2 * k) 1 = 0 := by rw [(a6 k hk).1]; exact h0
  have hk2 : ¬ S (4 + 2 * k) 1 = 2 := by rw [(a6 k hk).1]; exact h2
  obtain ⟨i1, i2, i3, i4, i5, i6⟩ := hE.1 k hk hk0
  have hon : ∀ g, g < 16 → (S 2 g = nI (2 + k) ↔ fE S k ≤ g ∧ g < fE S k + nE S k) := fun g hg => by
    rw [hO.2.2 k hk g hg]
    exact ⟨fun w => w.2, fun w => ⟨hk0, w⟩⟩
  have hf1 : 1 ≤ fE S k := by
    by_cases q : 1 ≤ fE S k
    · exact q
    · have := (hon 0 (by decide)).mpr (by omega)
      rw [hO.1] at this
      exact absurd this.symm (nI_ne0 (by omega) (by omega))
  generalize hfe : fE S k = f at *
  generalize hne : nE S k = n at *
  have t1 : rmT S k f n (4 + 2 * k) 1 = 0 := by rw [rmT_at, if_pos ⟨rfl, rfl⟩]
  have to : ∀ e, e < 4 → ∀ j, ¬ (e = k ∧ j = 1) → rmT S k f n (4 + 2 * e) j = S (4 + 2 * e) j := fun e he j q => rmT_oth (by omega) (by omega) (by omega)
  have g2 : ∀ g, f ≤ g → g < f + n → rmT S k f n 2 g = 1 := fun g q1 q2 => by rw [rmT_at, if_neg (by omega), if_pos ⟨rfl, q1, q2⟩]
  have g3 : ∀ g, ¬ (f ≤ g ∧ g < f + n) → rmT S k f n 2 g = S 2 g := fun g q => rmT_oth (by omega) (by omega) (by omega)
  have n1 : ∀ e, e < 4 → ¬ (1 : Int32) = nI (2 + e) := fun e he q => by
    have := (nI_eq (a := 1) (by decide) (by omega)).mp q
    omega
  refine PR.all ⟨⟨?_, ?_, fun a ha => ?_, fun g hg => ?_, fun p' hp' k' hk' => ?_, fun e he => ?_⟩, fun p' hp' => ?_, ⟨fun p' hp' => ?_, ?_⟩, ⟨fun e he q => ?_, fun e he => ?_⟩, ⟨?_, fun g hg1 hg => ?_, fun e he g hg => ?_⟩⟩
  · rw [rmT_oth (by omega) (by omega) (by omega), tD_at hk, if_neg (by omega), if_neg (by omega), if_neg (by omega)]; exact a1
  · rw [rmT_oth (by omega) (by omega) (by omega), tD_at hk, if_neg (by omega), if_neg (by omega), if_neg (by omega)]; exact a2
  · rw [tD_at hk, if_neg (by omega), if_neg (by omega), if_pos ⟨rfl, ha⟩, ← a4 _ (show a / 16 < 16 by omega)]
    by_cases q : S 2 (a / 16) = nI (2 + k)
    · have := (hon _ (by omega)).mp q
      rw [if_pos q, rmT_at, if_neg (by omega), if_neg (by omega), if_pos ⟨rfl, by omega, by omega⟩]
    · have hq : ¬ (16 * f ≤ a ∧ a < 16 * (f + n)) := fun w => q ((hon _ (by omega)).mpr (by omega))
      rw [if_neg q, rmT_oth (by omega) (by omega) (by omega)]
      exact a3 a ha
  · rw [tD_at hk, if_neg (by omega), if_pos ⟨rfl, hg⟩, ← a4 g hg]
    by_cases q : S 2 g = nI (2 + k)
    · have := (hon g hg).mp q
      rw [if_pos q, g2 g this.1 this.2]
    · rw [if_neg q, g3 g (fun w => q ((hon g hg).mpr w))]
  · rw [rmT_oth (by omega) (by omega) (by omega), tD_at hk, if_neg (by omega), if_neg (by omega), if_neg (by omega)]; exact a5 p' hp' k' hk'
  · have hM : ∀ c j, ¬ (c = 5 ∧ j = k) → c ≠ 2 → c ≠ 1 → up2 (ozM (wzM M (nI k) 256) (nI k) 16) 5 k 0 c j = M c j := fun c j q1 q2 q3 => by rw [tD_at hk, if_neg q1, if_neg (by omega), if_neg (by omega)]
    by_cases q : e = k
    · subst q
      have m5 : up2 (ozM (wzM M (nI e) 256) (nI e) 16) 5 e 0 5 e = 0 := by rw [tD_at hk, if_pos ⟨rfl, rfl⟩]
      refine ⟨by rw [t1, m5], fun w => absurd m5 w, by rw [to e he 8 (by omega), hM 11 e (by omega) (by decide) (by decide)]; exact (a6 e he).2.2.1, fun w => ?_⟩
      rw [m5] at w
      rcases w with w | w <;> exact absurd w (by decide)
    · exact (a6 e he).of (fun j => to e he j (by omega)) (fun k' hk' => rmT_oth (by omega) (by omega) (by omega)) (fun c h5 h12 => hM c e (by omega) (by omega) (by omega)) (fun k' hk' => hM 13 _ (by omega) (by decide) (by decide))
  · rw [rmT_oth (by omega) (by omega) (by omega), tD_at hk, if_neg (by omega), if_neg (by omega), if_neg (by omega)]; exact b p' hp'
  · rw [rmT_oth (by omega) (by omega) (by omega)]
    rcases hP.1 p' hp' with w | ⟨e, he, w1, w2⟩
    · exact Or.inl w
    · have hek : e ≠ k := fun q => by rw [q] at w2; exact hk2 w2
      exact Or.inr ⟨e, he, w1, by rw [to e he 1 (by omega)]; exact w2⟩
  · rw [rmT_oth (by omega) (by omega) (by omega), rmT_oth (by omega) (by omega) (by omega)]; exact hP.2
  · by_cases w : e = k
    · subst w; exact absurd t1 q
    · rw [to e he 1 (by omega)] at q
      obtain ⟨j1, j2, j3, j4, j5, j6⟩ := hE.1 e he q
      unfold EnI fE nE
      rw [to e he 2 (by omega), to e he 3 (by omega), to e he 5 (by omega)]
      exact ⟨j1, j2, j3, j4, j5, j6⟩
  · by_cases w : e = k
    · subst w; rw [t1]; exact ⟨0, by decide, rfl⟩
    · rw [to e he 1 (by omega)]; exact hE.2 e he
  · rw [g3 0 (by omega)]; exact hO.1
  · by_cases q : f ≤ g ∧ g < f + n
    · exact Or.inl (g2 g q.1 q.2)
    · rw [g3 g q]; exact hO.2.1 g hg1 hg
  · by_cases w : e = k
    · subst w
      rw [t1]
      by_cases q : f ≤ g ∧ g < f + n
      · rw [g2 g q.1 q.2]
        exact ⟨fun v => absurd v (n1 e he), fun v => absurd rfl v.1⟩
      · rw [g3 g q]
        exact ⟨fun v => absurd ((hon g hg).mp v) q, fun v => absurd rfl v.1⟩
    · unfold fE nE
      rw [to e he 1 (by omega), to e he 2 (by omega), to e he 3 (by omega)]
      by_cases q : f ≤ g ∧ g < f + n
      · rw [g2 g q.1 q.2]
        refine ⟨fun v => absurd v (n1 e he), fun v => ?_⟩
        have v1 := (hO.2.2 e he g hg).mpr v
        have v2 := (hon g hg).mpr q
        rw [v2] at v1
        exact absurd ((nI_eq (by omega) (by omega)).mp v1) (by omega)
      · rw [g3 g q]; exact hO.2.2 e he g hg
theorem R_des {S M : St} (hR : Rel S M) (z q : Int32) : vDes S z q = wDes M z q ∧ Rel (sDes S z q) (tDes M z q) := by
  unfold vDes wDes sDes tDes
  rw [busy_eq hR, thr_eq hR]
  by_cases h : bsM M z = true
  · rw [if_pos h, if_pos h, if_pos h, if_pos h]; exact ⟨rfl, hR⟩
  rw [if_neg h, if_neg h, if_neg h, if_neg h]
  by_cases h2 : thM M q = false
  · rw [if_pos h2, if_pos h2, if_pos h2, if_pos h2]; exact ⟨rfl, hR⟩
  rw [if_neg h2, if_neg h2, if_neg h2, if_neg h2]
  have hth : thM M q = true := by simpa using h2
  obtain ⟨k, hk, rfl⟩ := inr_ex (k := 4) (by decide) rfl (thM_in hth)
  rw [nI_clamp (by omega), (hR.1.2.2.2.2.2 k hk).1]
  by_cases h3 : M 5 k = 2
  · rw [if_pos h3, if_pos h3, if_pos h3]; exact ⟨rfl, hR⟩
  · rw [if_neg h3, if_neg h3, if_neg h3]
    refine ⟨rfl, ?_⟩
    have h0 : ¬ M 5 k = 0 := by
      unfold thM at hth
      rw [Bool.and_eq_true, nI_clamp (by omega)] at hth
      simpa using hth.2
    exact destroy_rel hR hk h0 h3
-- ===== the start =====
theorem R_start (key : Int32) : Rel (sAll (S0 key)) (M0 key) := by
  have hen : ∀ e, e < 4 → ∀ j, S0 key (4 + 2 * e) j = if j = 5 then -1 else 0 := by
    intro e he j
    have : e = 0 ∨ e = 1 ∨ e = 2 ∨ e = 3 := by omega
    rcases this with rfl | rfl | rfl | rfl <;> rfl
  have hpe : ∀ p, p < 2 → S0 key (13 + 14 * p) 2 = -1 := by
    intro p hp
    have : p = 0 ∨ p = 1 := by omega
    rcases this with rfl | rfl <;> rfl
  have how : ∀ g, S0 key 2 g = if 1 ≤ g ∧ g < 16 then 1 else 0 := fun g => rfl
  have h1 : ∀ e, e < 4 → S0 key (4 + 2 * e) 1 = 0 := fun e he => by rw [hen e he, if_neg (by decide)]
  refine PR.all ⟨⟨rfl, rfl, fun a ha => rfl, fun g hg => rfl, fun p hp k hk => ?_, fun e he => ?_⟩, fun p hp => ?_, ⟨fun p hp => Or.inl (hpe p hp), fun _ => rfl⟩, ⟨fun e he q => absurd (h1 e he) q, fun e he => ⟨0, by decide, h1 e he⟩⟩, ⟨rfl, fun g hg1 hg => Or.inl ?_, fun e he g hg => ?_⟩⟩
  · have : p = 0 ∨ p = 1 := by omega
    rcases this with rfl | rfl <;> rfl
  · refine ⟨by rw [h1 e he]; rfl, fun w => absurd rfl w, by rw [hen e he, if_neg (by decide)]; rfl, fun w => ?_⟩
    have m5 : M0 key 5 e = 0 := rfl
    rw [m5] at w
    rcases w with w | w <;> exact absurd w (by decide)
  · rw [hpe p hp]
    have : p = 0 ∨ p = 1 := by omega
    rcases this with rfl | rfl <;> rfl
  · rw [how, if_pos ⟨hg1, hg⟩]
  · rw [h1 e he, how]
    refine ⟨fun w => ?_, fun w => absurd rfl w.1⟩
    split at w
    · have := (nI_eq (a := 1) (by decide) (by omega)).mp w
      omega
    · exact absurd w.symm (nI_ne0 (by omega) (by omega))
