-- ===== step =====
theorem up2_comm {S : St} {c c' j j' : Nat} {v v' : Int32} (h : c ≠ c') : up2 (up2 S c j v) c' j' v' = up2 (up2 S c' j' v') c j v := by
  funext a b
  rw [up2_at, up2_at, up2_at, up2_at]
  by_cases h1 : a = c' ∧ b = j'
  · rw [if_pos h1, if_neg (show ¬ (a = c ∧ b = j) by omega), if_pos h1]
  · rw [if_neg h1, if_neg h1]
theorem Rel.pc {S M : St} (hR : Rel S M) {e : Nat} (he : e < 4) (v : Int32) : Rel (up2 S (4 + 2 * e) 7 v) (up2 M 12 e v) := by
  obtain ⟨⟨a1, a2, a3, a4, a5, a6⟩, b, hI⟩ := hR
  refine ⟨⟨?_, ?_, fun a ha => ?_, fun g hg => ?_, fun p hp k hk => ?_, fun e' he' => ?_⟩, fun p hp => ?_, Inv4.same hI (Same.e he (by omega))⟩
  · rw [up2_ne (by omega), up2_ne (by omega)]; exact a1
  · rw [up2_ne (by omega), up2_ne (by omega)]; exact a2
  · rw [up2_ne (by omega), up2_ne (by omega)]; exact a3 a ha
  · rw [up2_ne (by omega), up2_ne (by omega)]; exact a4 g hg
  · rw [up2_ne (by omega), up2_ne (by omega)]; exact a5 p hp k hk
  · obtain ⟨r1, r2, r3, r4⟩ := a6 e' he'
    refine ⟨by rw [up2_at, if_neg (by omega), up2_ne (by omega)]; exact r1, fun q => ?_, by rw [up2_at, if_neg (by omega), up2_ne (by omega)]; exact r3, fun q => ?_⟩
    · rw [up2_ne (by omega)] at q
      have hS : ∀ j, j ≠ 7 → up2 S (4 + 2 * e) 7 v (4 + 2 * e') j = S (4 + 2 * e') j := fun j hj => by rw [up2_at, if_neg (by omega)]
      have hM : ∀ c, c ≠ 12 → up2 M 12 e v c = M c := fun c hc => up2_ne hc
      rw [hS 2 (by decide), hS 3 (by decide), hS 4 (by decide), hS 5 (by decide), hS 6 (by decide), hM 6 (by decide), hM 7 (by decide), hM 8 (by decide), hM 9 (by decide), hM 10 (by decide)]
      exact r2 q
    · rw [up2_ne (by omega)] at q
      obtain ⟨d1, d2⟩ := r4 q
      refine ⟨?_, fun k hk => by rw [up2_ne (by omega), up2_ne (by omega)]; exact d2 k hk⟩
      rw [up2_at, up2_at]
      by_cases w : e' = e
      · rw [if_pos (by omega), if_pos (by omega)]
      · rw [if_neg (by omega), if_neg (by omega)]; exact d1
  · rw [up2_ne (by omega), up2_ne (by omega)]; exact b p hp
theorem Rel.ereg {S M : St} (hR : Rel S M) {e k : Nat} (he : e < 4) (hk : k < 8) (v : Int32) : Rel (up2 S (4 + 2 * e + 1) k v) (up2 M 13 (8 * e + k) v) := by
  obtain ⟨⟨a1, a2, a3, a4, a5, a6⟩, b, hI⟩ := hR
  refine ⟨⟨?_, ?_, fun a ha => ?_, fun g hg => ?_, fun p hp k hk => ?_, fun e' he' => ?_⟩, fun p hp => ?_, Inv4.same hI (Same.c (by omega) (by omega) (by omega) (by omega))⟩
  · rw [up2_ne (by omega), up2_ne (by omega)]; exact a1
  · rw [up2_ne (by omega), up2_ne (by omega)]; exact a2
  · rw [up2_ne (by omega), up2_ne (by omega)]; exact a3 a ha
  · rw [up2_ne (by omega), up2_ne (by omega)]; exact a4 g hg
  · rw [up2_ne (by omega), up2_ne (by omega)]; exact a5 p hp k hk
  · obtain ⟨r1, r2, r3, r4⟩ := a6 e' he'
    unfold REn
    rw [up2_ne (show 4 + 2 * e' ≠ 4 + 2 * e + 1 by omega), up2_ne (show 5 ≠ 13 by omega), up2_ne (show 6 ≠ 13 by omega), up2_ne (show 7 ≠ 13 by omega), up2_ne (show 8 ≠ 13 by omega), up2_ne (show 9 ≠ 13 by omega), up2_ne (show 10 ≠ 13 by omega), up2_ne (show 11 ≠ 13 by omega), up2_ne (show 12 ≠ 13 by omega)]
    refine ⟨r1, r2, r3, fun q => ⟨(r4 q).1, fun k' hk' => ?_⟩⟩
    rw [up2_at, up2_at]
    by_cases w : e' = e ∧ k' = k
    · rw [if_pos (by omega), if_pos (by omega)]
    · rw [if_neg (by omega), if_neg (by omega)]; exact (r4 q).2 k' hk'
  · rw [up2_ne (by omega), up2_ne (by omega)]; exact b p hp
theorem edM_at {M : St} {p e c j : Nat} {t v : Int32} (h4 : M 4 p = nI e) (he : e < 4) : edM M p t v c j = if c = 4 ∧ j = p then -1 else if c = 5 ∧ j = e then t else if c = 11 ∧ j = e then v else M c j := by
  unfold edM
  rw [lvM_at (e := e) (by rw [up2_ne (by omega)]; exact h4) he, up2_at, h4, nI_clamp (by omega)]
/-- behind a step: it goes on, or the enclave has left (the class has yet to say so) -/
def Res (p e : Nat) (S M : St) : Prop := (Rel S M ∧ S (13 + 14 * p) 2 = nI e ∧ S (4 + 2 * e) 1 = 2 ∧ M 4 p = nI e) ∨ (¬ S (4 + 2 * e) 1 = 2 ∧ M 4 p < 0 ∧ Rel (sGs (up2 S (13 + 14 * p) 2 (-1)) (13 + 14 * p)) M)
section
variable {S M : St} {p e : Nat}
theorem res_end (hp : p < 2) (he : e < 4) (hR : Rel S M) (h1 : S (13 + 14 * p) 2 = nI e) (h2 : S (4 + 2 * e) 1 = 2) (h3 : M 4 p = nI e) {S1 : St} {t : Nat} {v : Int32} (ht : t = 4 ∨ t = 5) (hS1 : ∀ c j, ¬ (c = 4 + 2 * e ∧ (j = 1 ∨ j = 7 ∨ j = 8)) → S1 c j = S c j) (h4 : S1 (4 + 2 * e) 1 = nI t) (h5 : S1 (4 + 2 * e) 8 = v) : Res p e S1 (edM M p (nI t) v) := by
  refine Or.inr ⟨by rw [h4]; rcases ht with rfl | rfl <;> decide, by rw [edM_at h3 he, if_pos ⟨rfl, rfl⟩]; decide, ?_⟩
  refine leave_rel (t := t) hp he hR h1 h2 (Or.inr ht) hS1 (fun c j q1 q2 q3 q4 => by rw [edM_at h3 he, if_neg q4, if_neg q1, if_neg q2]) h4 (by rw [edM_at h3 he, if_neg (by omega), if_pos ⟨rfl, rfl⟩]) (by rw [edM_at h3 he, if_pos ⟨rfl, rfl⟩]) (by rw [edM_at h3 he, if_neg (by omega), if_neg (by omega), if_pos ⟨rfl, rfl⟩]; exact h5) (fun q => by omega)
theorem sEnd_at {j c k : Nat} {t v : Int32} : sEnd S j t v c k = if c = j ∧ k = 8 then v else if c = j ∧ k = 1 then t else S c k := by
  unfold sEnd
  rw [up2_at, up2_at]
theorem res_fault (hp : p < 2) (he : e < 4) (hR : Rel S M) (h1 : S (13 + 14 * p) 2 = nI e) (h2 : S (4 + 2 * e) 1 = 2) (h3 : M 4 p = nI e) (v : Int32) : Res p e (sEnd S (4 + 2 * e) 5 v) (edM M p 5 v) :=
  res_end (t := 5) hp he hR h1 h2 h3 (Or.inr rfl) (fun c j q => by rw [sEnd_at, if_neg (by omega), if_neg (by omega)]) (by rw [sEnd_at, if_neg (by omega), if_pos ⟨rfl, rfl⟩]; rfl) (by rw [sEnd_at, if_pos ⟨rfl, rfl⟩])
theorem res_reg (hp : p < 2) (he : e < 4) (hR : Rel S M) (h1 : S (13 + 14 * p) 2 = nI e) (h2 : S (4 + 2 * e) 1 = 2) (h3 : M 4 p = nI e) {k : Nat} (hk : k < 8) (v n : Int32) : Res p e (up2 (up2 S (4 + 2 * e + 1) k v) (4 + 2 * e) 7 n) (up2 (up2 M 12 e n) 13 (8 * e + k) v) := by
  refine Or.inl ⟨by rw [up2_comm (c := 12) (by decide)]; exact (hR.ereg he hk v).pc he n, ?_, ?_, ?_⟩
  · rw [up2_ne (by omega), up2_ne (by omega)]; exact h1
  · rw [up2_at, if_neg (by omega), up2_ne (by omega)]; exact h2
  · rw [up2_ne (by omega), up2_ne (by omega)]; exact h3
theorem res_mem (hp : p < 2) (he : e < 4) (hR : Rel S M) (h1 : S (13 + 14 * p) 2 = nI e) (h2 : S (4 + 2 * e) 1 = 2) (h3 : M 4 p = nI e) (a : Nat) (v n : Int32) : Res p e (up2 (up2 S 1 a v) (4 + 2 * e) 7 n) (up2 (up2 M 12 e n) 1 a v) := by
  refine Or.inl ⟨by rw [up2_comm (c := 12) (by decide)]; exact (hR.mem a v).pc he n, ?_, ?_, ?_⟩
  · rw [up2_ne (by omega), up2_ne (by omega)]; exact h1
  · rw [up2_at, if_neg (by omega), up2_ne (by omega)]; exact h2
  · rw [up2_ne (by omega), up2_ne (by omega)]; exact h3
theorem fO_ex (v : Int32) : ∃ o, o < 16 ∧ fO v = nI o := by
  unfold fO
  obtain ⟨j, hj, h⟩ := pk_andE v (m := 15) 4 (by decide)
  exact ⟨j, hj, h⟩
/-- a word is done alike -/
theorem word_res (hp : p < 2) (he : e < 4) (hR : Rel S M) (h1 : S (13 + 14 * p) 2 = nI e) (h2 : S (4 + 2 * e) 1 = 2) (h3 : M 4 p = nI e) (w : Int32) : Res p e (if dwS S (13 + 14 * p) (4 + 2 * e) w (4 + 2 * e) 1 = 5 then dwS S (13 + 14 * p) (4 + 2 * e) w else up2 (dwS S (13 + 14 * p) (4 + 2 * e) w) (4 + 2 * e) 7 (dwV S (4 + 2 * e) w)) (onW M (nI p) w (S (4 + 2 * e) 7)) := by
  obtain ⟨r1, r2, r3, r4⟩ := hR.1.2.2.2.2.2 e he
  have m2 : M 5 e = 2 := by rw [← r1]; exact h2
  obtain ⟨r5, r6⟩ := r4 (Or.inl m2)
  have r7 := (r2 (by rw [m2]; decide)).2.2.2.2
  have hA := inr_j (k := 8) rfl (by decide) (fA_in w)
  have hB := inr_j (k := 8) rfl (by decide) (fB_in w)
  have xA : ixA M (nI p) w = 8 * e + (fA w).toNatClampNeg := by unfold ixA; rw [nI_clamp (by omega), h3, nI_clamp (by omega)]
  have xB : ixB M (nI p) w = 8 * e + (fB w).toNatClampNeg := by unfold ixB; rw [nI_clamp (by omega), h3, nI_clamp (by omega)]
  have vA : rgA S (4 + 2 * e) w = M 13 (8 * e + (fA w).toNatClampNeg) := by unfold rgA; exact r6 _ hA
  have vB : rgB S (4 + 2 * e) w = M 13 (8 * e + (fB w).toNatClampNeg) := by unfold rgB; exact r6 _ hB
  have xT : atM M (nI p) w = rgB S (4 + 2 * e) w + fI w := by unfold atM; rw [xB, vB]
  have c3 : (nI p).toNatClampNeg = p := nI_clamp (by omega)
  have c4 : (nI e).toNatClampNeg = e := nI_clamp (by omega)
  have k0 : M 0 0 = S 0 0 := hR.1.1.symm
  obtain ⟨o, ho, hop⟩ := fO_ex w
  have ho' : o = 0 ∨ o = 1 ∨ o = 2 ∨ o = 3 ∨ o = 4 ∨ o = 5 ∨ o = 6 ∨ o = 7 ∨ o = 8 ∨ o = 9 ∨ o = 10 ∨ 10 < o := by omega
  unfold onW pcM
  rw [xA, xB, xT, c3, h3, c4]
  rcases ho' with rfl | rfl | rfl | rfl | rfl | rfl | rfl | rfl | rfl | rfl | rfl | hbig
  · have f0 : fO w = 0 := hop
    have hd : dwS S (13 + 14 * p) (4 + 2 * e) w = sEnd S (4 + 2 * e) 4 (rgA S (4 + 2 * e) w) := by simp [dwS, f0]
    rw [hd, if_neg (show ¬ sEnd S (4 + 2 * e) 4 (rgA S (4 + 2 * e) w) (4 + 2 * e) 1 = 5 by rw [sEnd_at, if_neg (by omega), if_pos ⟨rfl, rfl⟩]; decide), if_pos f0]
    refine res_end (t := 4) hp he hR h1 h2 h3 (Or.inl rfl) (fun c j q => ?_) ?_ ?_
    · rw [up2_at, if_neg (by omega), sEnd_at, if_neg (by omega), if_neg (by omega)]
    · rw [up2_at, if_neg (by omega), sEnd_at, if_neg (by omega), if_pos ⟨rfl, rfl⟩]; rfl
    · rw [up2_at, if_neg (by omega), sEnd_at, if_pos ⟨rfl, rfl⟩, vA]
  · have f0 : fO w = 1 := hop
    have hd : dwS S (13 + 14 * p) (4 + 2 * e) w = up2 S (4 + 2 * e + 1) (fA w).toNatClampNeg (rgB S (4 + 2 * e) w + fI w) := by simp [dwS, f0]
    have hv : dwV S (4 + 2 * e) w = S (4 + 2 * e) 7 + 1 := by simp [dwV, f0]
    rw [hd, hv, if_neg (show ¬ up2 S (4 + 2 * e + 1) (fA w).toNatClampNeg (rgB S (4 + 2 * e) w + fI w) (4 + 2 * e) 1 = 5 by rw [up2_ne (by omega), h2]; decide)]
    simp only [f0]
    exact res_reg hp he hR h1 h2 h3 hA _ _
  · have f0 : fO w = 2 := hop
    have hd : dwS S (13 + 14 * p) (4 + 2 * e) w = up2 S (4 + 2 * e + 1) (fA w).toNatClampNeg (rgA S (4 + 2 * e) w + rgB S (4 + 2 * e) w) := by simp [dwS, f0]
    have hv : dwV S (4 + 2 * e) w = S (4 + 2 * e) 7 + 1 := by simp [dwV, f0]
    rw [hd, hv, if_neg (show ¬ up2 S (4 + 2 * e + 1) (fA w).toNatClampNeg (rgA S (4 + 2 * e) w + rgB S (4 + 2 * e) w) (4 + 2 * e) 1 = 5 by rw [up2_ne (by omega), h2]; decide)]
    simp only [f0]
    have hw : wkM (up2 M 12 e (S (4 + 2 * e) 7 + 1)) (nI p) 2 (8 * e + (fA w).toNatClampNeg) (8 * e + (fB w).toNatClampNeg) (rgB S (4 + 2 * e) w + fI w) (S (4 + 2 * e) 7) = up2 (up2 M 12 e (S (4 + 2 * e) 7 + 1)) 13 (8 * e + (fA w).toNatClampNeg) (rgA S (4 + 2 * e) w + rgB S (4 + 2 * e) w) := by
      unfold wkM
      rw [if_neg (by decide), if_pos rfl, up2_ne (show 13 ≠ 12 by decide), vA, vB]
    exact hw ▸ res_reg hp he hR h1 h2 h3 hA _ _
  · have f0 : fO w = 3 := hop
    have hd : dwS S (13 + 14 * p) (4 + 2 * e) w = up2 S (4 + 2 * e + 1) (fA w).toNatClampNeg (rgA S (4 + 2 * e) w ^^^ rgB S (4 + 2 * e) w) := by simp [dwS, f0]
    have hv : dwV S (4 + 2 * e) w = S (4 + 2 * e) 7 + 1 := by simp [dwV, f0]
    rw [hd, hv, if_neg (show ¬ up2 S (4 + 2 * e + 1) (fA w).toNatClampNeg (rgA S (4 + 2 * e) w ^^^ rgB S (4 + 2 * e) w) (4 + 2 * e) 1 = 5 by rw [up2_ne (by omega), h2]; decide)]
    simp only [f0]
    have hw : wkM (up2 M 12 e (S (4 + 2 * e) 7 + 1)) (nI p) 3 (8 * e + (fA w).toNatClampNeg) (8 * e + (fB w).toNatClampNeg) (rgB S (4 + 2 * e) w + fI w) (S (4 + 2 * e) 7) = up2 (up2 M 12 e (S (4 + 2 * e) 7 + 1)) 13 (8 * e + (fA w).toNatClampNeg) (rgA S (4 + 2 * e) w ^^^ rgB S (4 + 2 * e) w) := by
      unfold wkM
      rw [if_neg (by decide), if_neg (by decide), if_pos rfl, up2_ne (show 13 ≠ 12 by decide), vA, vB]
    exact hw ▸ res_reg hp he hR h1 h2 h3 hA _ _
  · have f0 : fO w = 4 := hop
    have hv : dwV S (4 + 2 * e) w = S (4 + 2 * e) 7 + 1 := by simp [dwV, f0]
    by_cases ha : alM M (nI p) (rgB S (4 + 2 * e) w + fI w) 1 = true
    · have hd : dwS S (13 + 14 * p) (4 + 2 * e) w = up2 S (4 + 2 * e + 1) (fA w).toNatClampNeg (S 1 (rgB S (4 + 2 * e) w + fI w).toNatClampNeg) := by
        have : alw S (13 + 14 * p) (rgB S (4 + 2 * e) w + fI w) 1 = true := by rw [alw_eq hR hp (Or.inl rfl)]; exact ha
        simp [dwS, f0, ldF, this]
      rw [hd, hv, if_neg (show ¬ up2 S (4 + 2 * e + 1) (fA w).toNatClampNeg (S 1 (rgB S (4 + 2 * e) w + fI w).toNatClampNeg) (4 + 2 * e) 1 = 5 by rw [up2_ne (by omega), h2]; decide)]
      simp only [f0, ha]
      have hw : wkM (up2 M 12 e (S (4 + 2 * e) 7 + 1)) (nI p) 4 (8 * e + (fA w).toNatClampNeg) (8 * e + (fB w).toNatClampNeg) (rgB S (4 + 2 * e) w + fI w) (S (4 + 2 * e) 7) = up2 (up2 M 12 e (S (4 + 2 * e) 7 + 1)) 13 (8 * e + (fA w).toNatClampNeg) (S 1 (rgB S (4 + 2 * e) w + fI w).toNatClampNeg) := by
        unfold wkM
        rw [if_neg (by decide), if_neg (by decide), if_neg (by decide), if_pos rfl, up2_ne (show 1 ≠ 12 by decide), hR.1.2.2.1 _ (inr_j (k := 256) rfl (by decide) (alM_in ha))]
      exact hw ▸ res_reg hp he hR h1 h2 h3 hA _ _
    · have ha' : alM M (nI p) (rgB S (4 + 2 * e) w + fI w) 1 = false := by simpa using ha
      have hd : dwS S (13 + 14 * p) (4 + 2 * e) w = sEnd S (4 + 2 * e) 5 2 := by
        have : alw S (13 + 14 * p) (rgB S (4 + 2 * e) w + fI w) 1 = false := by rw [alw_eq hR hp (Or.inl rfl)]; exact ha'
        simp [dwS, f0, ldF, this]
      rw [hd, if_pos (show sEnd S (4 + 2 * e) 5 2 (4 + 2 * e) 1 = 5 by rw [sEnd_at, if_neg (by omega), if_pos ⟨rfl, rfl⟩])]
      simp only [f0, ha']
      exact res_fault hp he hR h1 h2 h3 2
  · have f0 : fO w = 5 := hop
    have hv : dwV S (4 + 2 * e) w = S (4 + 2 * e) 7 + 1 := by simp [dwV, f0]
    by_cases ha : alM M (nI p) (rgB S (4 + 2 * e) w + fI w) 2 = true
    · have hd : dwS S (13 + 14 * p) (4 + 2 * e) w = up2 S 1 (rgB S (4 + 2 * e) w + fI w).toNatClampNeg (rgA S (4 + 2 * e) w) := by
        have : alw S (13 + 14 * p) (rgB S (4 + 2 * e) w + fI w) 2 = true := by rw [alw_eq hR hp (Or.inr (Or.inl rfl))]; exact ha
        simp [dwS, f0, stF, this, rgA]
      rw [hd, hv, if_neg (show ¬ up2 S 1 (rgB S (4 + 2 * e) w + fI w).toNatClampNeg (rgA S (4 + 2 * e) w) (4 + 2 * e) 1 = 5 by rw [up2_ne (by omega), h2]; decide)]
      simp only [f0, ha]
      have hw : wkM (up2 M 12 e (S (4 + 2 * e) 7 + 1)) (nI p) 5 (8 * e + (fA w).toNatClampNeg) (8 * e + (fB w).toNatClampNeg) (rgB S (4 + 2 * e) w + fI w) (S (4 + 2 * e) 7) = up2 (up2 M 12 e (S (4 + 2 * e) 7 + 1)) 1 (rgB S (4 + 2 * e) w + fI w).toNatClampNeg (rgA S (4 + 2 * e) w) := by
        unfold wkM
        rw [if_neg (by decide), if_neg (by decide), if_neg (by decide), if_neg (by decide), if_pos rfl, up2_ne (show 13 ≠ 12 by decide), vA]
      exact hw ▸ res_mem hp he hR h1 h2 h3 _ _ _
    · have ha' : alM M (nI p) (rgB S (4 + 2 * e) w + fI w) 2 = false := by simpa using ha
      have hd : dwS S (13 + 14 * p) (4 + 2 * e) w = sEnd S (4 + 2 * e) 5 3 := by
        have : alw S (13 + 14 * p) (rgB S (4 + 2 * e) w + fI w) 2 = false := by rw [alw_eq hR hp (Or.inr (Or.inl rfl))]; exact ha'
        simp [dwS, f0, stF, this]
      rw [hd, if_pos (show sEnd S (4 + 2 * e) 5 3 (4 + 2 * e) 1 = 5 by rw [sEnd_at, if_neg (by omega), if_pos ⟨rfl, rfl⟩])]
      simp only [f0, ha']
      exact res_fault hp he hR h1 h2 h3 3
  · have f0 : fO w = 6 := hop
    have hd : dwS S (13 + 14 * p) (4 + 2 * e) w = S := by simp [dwS, f0]
    have hv : dwV S (4 + 2 * e) w = if M 13 (8 * e + (fA w).toNatClampNeg) = 0 then S (4 + 2 * e) 7 + 1 + fI w else S (4 + 2 * e) 7 + 1 := by simp [dwV, f0, vA]
    rw [hd, hv, if_neg (show ¬ S (4 + 2 * e) 1 = 5 by rw [h2]; decide)]
    simp only [f0]
    have hw : ∀ n, wkM (up2 M 12 e n) (nI p) 6 (8 * e + (fA w).toNatClampNeg) (8 * e + (fB w).toNatClampNeg) (rgB S (4 + 2 * e) w + fI w) (S (4 + 2 * e) 7) = up2 M 12 e n := by
      intro n
      unfold wkM
      rw [if_neg (by decide), if_neg (by decide), if_neg (by decide), if_neg (by decide), if_neg (by decide), if_neg (by decide), if_neg (by decide), if_neg (by decide), if_neg (by decide)]
    have hres : ∀ n, Res p e (up2 S (4 + 2 * e) 7 n) (up2 M 12 e n) := fun n => Or.inl ⟨hR.pc he n, by rw [up2_ne (by omega)]; exact h1, by rw [up2_at, if_neg (by omega)]; exact h2, by rw [up2_ne (by omega)]; exact h3⟩
    have hw2 := hw (if M 13 (8 * e + (fA w).toNatClampNeg) = 0 then S (4 + 2 * e) 7 + 1 + fI w else S (4 + 2 * e) 7 + 1)
    have hr2 := hres (if M 13 (8 * e + (fA w).toNatClampNeg) = 0 then S (4 + 2 * e) 7 + 1 + fI w else S (4 + 2 * e) 7 + 1)
    rw [← hw2] at hr2
    simpa using hr2
  · have f0 : fO w = 7 := hop
    have hd : dwS S (13 + 14 * p) (4 + 2 * e) w = up2 S (4 + 2 * e + 1) (fA w).toNatClampNeg (S (4 + 2 * e) 7 + 1) := by simp [dwS, f0]
    have hv : dwV S (4 + 2 * e) w = rgB S (4 + 2 * e) w + fI w := by simp [dwV, f0]
    rw [hd, hv, if_neg (show ¬ up2 S (4 + 2 * e + 1) (fA w).toNatClampNeg (S (4 + 2 * e) 7 + 1) (4 + 2 * e) 1 = 5 by rw [up2_ne (by omega), h2]; decide)]
    simp only [f0]
    exact res_reg hp he hR h1 h2 h3 hA _ _
  · have f0 : fO w = 8 := hop
    have hd : dwS S (13 + 14 * p) (4 + 2 * e) w = up2 S (4 + 2 * e + 1) (fA w).toNatClampNeg (prfS (S 0 0) (S (4 + 2 * e) 6) (rgB S (4 + 2 * e) w)) := by simp [dwS, f0]
    have hv : dwV S (4 + 2 * e) w = S (4 + 2 * e) 7 + 1 := by simp [dwV, f0]
    rw [hd, hv, if_neg (show ¬ up2 S (4 + 2 * e + 1) (fA w).toNatClampNeg (prfS (S 0 0) (S (4 + 2 * e) 6) (rgB S (4 + 2 * e) w)) (4 + 2 * e) 1 = 5 by rw [up2_ne (by omega), h2]; decide)]
    simp only [f0]
    have hw : wkM (up2 M 12 e (S (4 + 2 * e) 7 + 1)) (nI p) 8 (8 * e + (fA w).toNatClampNeg) (8 * e + (fB w).toNatClampNeg) (rgB S (4 + 2 * e) w + fI w) (S (4 + 2 * e) 7) = up2 (up2 M 12 e (S (4 + 2 * e) 7 + 1)) 13 (8 * e + (fA w).toNatClampNeg) (prfS (S 0 0) (S (4 + 2 * e) 6) (rgB S (4 + 2 * e) w)) := by
      unfold wkM
      rw [if_neg (by decide), if_neg (by decide), if_neg (by decide), if_neg (by decide), if_neg (by decide), if_neg (by decide), if_pos rfl, up2_ne (show 13 ≠ 12 by decide), up2_ne (show 0 ≠ 12 by decide), up2_ne (show 10 ≠ 12 by decide), up2_ne (show 4 ≠ 12 by decide), c3, h3, c4, k0, ← r7, vB]
    exact hw ▸ res_reg hp he hR h1 h2 h3 hA _ _
  · have f0 : fO w = 9 := hop
    have hd : dwS S (13 + 14 * p) (4 + 2 * e) w = up2 S (4 + 2 * e + 1) (fA w).toNatClampNeg (secS (S 0 0) (S (4 + 2 * e) 6)) := by simp [dwS, f0]
    have hv : dwV S (4 + 2 * e) w = S (4 + 2 * e) 7 + 1 := by simp [dwV, f0]
    rw [hd, hv, if_neg (show ¬ up2 S (4 + 2 * e + 1) (fA w).toNatClampNeg (secS (S 0 0) (S (4 + 2 * e) 6)) (4 + 2 * e) 1 = 5 by rw [up2_ne (by omega), h2]; decide)]
    simp only [f0]
    have hw : wkM (up2 M 12 e (S (4 + 2 * e) 7 + 1)) (nI p) 9 (8 * e + (fA w).toNatClampNeg) (8 * e + (fB w).toNatClampNeg) (rgB S (4 + 2 * e) w + fI w) (S (4 + 2 * e) 7) = up2 (up2 M 12 e (S (4 + 2 * e) 7 + 1)) 13 (8 * e + (fA w).toNatClampNeg) (secS (S 0 0) (S (4 + 2 * e) 6)) := by
      unfold wkM
      rw [if_neg (by decide), if_neg (by decide), if_neg (by decide), if_neg (by decide), if_neg (by decide), if_neg (by decide), if_neg (by decide), if_pos rfl, up2_ne (show 0 ≠ 12 by decide), up2_ne (show 10 ≠ 12 by decide), up2_ne (show 4 ≠ 12 by decide), c3, h3, c4, k0, ← r7]
    exact hw ▸ res_reg hp he hR h1 h2 h3 hA _ _
  · have f0 : fO w = 10 := hop
    have hd : dwS S (13 + 14 * p) (4 + 2 * e) w = up2 S (4 + 2 * e) 1 3 := by simp [dwS, f0]
    have hv : dwV S (4 + 2 * e) w = S (4 + 2 * e) 7 + 1 := by simp [dwV, f0]
    rw [hd, hv, if_neg (show ¬ up2 S (4 + 2 * e) 1 3 (4 + 2 * e) 1 = 5 by rw [up2_at, if_pos ⟨rfl, rfl⟩]; decide)]
    simp only [f0]
    have hw : wkM (up2 M 12 e (S (4 + 2 * e) 7 + 1)) (nI p) 10 (8 * e + (fA w).toNatClampNeg) (8 * e + (fB w).toNatClampNeg) (rgB S (4 + 2 * e) w + fI w) (S (4 + 2 * e) 7) = lvM (up2 M 12 e (S (4 + 2 * e) 7 + 1)) p 3 := by
      unfold wkM
      rw [if_neg (by decide), if_neg (by decide), if_neg (by decide), if_neg (by decide), if_neg (by decide), if_neg (by decide), if_neg (by decide), if_neg (by decide), if_pos rfl, c3]
    have h3' : up2 M 12 e (S (4 + 2 * e) 7 + 1) 4 p = nI e := by rw [up2_ne (by decide)]; exact h3
    have hres : Res p e (up2 (up2 S (4 + 2 * e) 1 3) (4 + 2 * e) 7 (S (4 + 2 * e) 7 + 1)) (lvM (up2 M 12 e (S (4 + 2 * e) 7 + 1)) p 3) := by
      refine Or.inr ⟨?_, ?_, ?_⟩
      · rw [up2_at, if_neg (by omega), up2_at, if_pos ⟨rfl, rfl⟩]; decide
      · rw [lvM_at h3' he, if_pos ⟨rfl, rfl⟩]; decide
      · refine leave_rel (t := 3) hp he hR h1 h2 (Or.inl rfl) (fun c j q => ?_) (fun c j q1 q2 q3 q4 => ?_) ?_ ?_ ?_ ?_ (fun _ => ?_)
        · rw [up2_at, if_neg (by omega), up2_at, if_neg (by omega)]
        · rw [lvM_at h3' he, if_neg q4, if_neg q1, up2_at, if_neg q3]
        · rw [up2_at, if_neg (by omega), up2_at, if_pos ⟨rfl, rfl⟩]; rfl
        · rw [lvM_at h3' he, if_neg (by omega), if_pos ⟨rfl, rfl⟩]; rfl
        · rw [lvM_at h3' he, if_pos ⟨rfl, rfl⟩]
        · rw [up2_at, if_neg (by omega), up2_at, if_neg (by omega), lvM_at h3' he, if_neg (by omega), if_neg (by omega), up2_ne (by omega)]; exact r3
        · rw [up2_at, if_pos ⟨rfl, rfl⟩, lvM_at h3' he, if_neg (by omega), if_neg (by omega), up2_at, if_pos ⟨rfl, rfl⟩]
    exact hw ▸ hres
  · have hne : ∀ k, k ≤ 10 → ¬ fO w = nI k := fun k hk q => by
      rw [hop] at q
      have := (nI_eq (by omega) (by omega)).mp q
      omega
    have hbig' : ¬ fO w ≤ 10 := by rw [hop]; exact nI_ge (a := 10) hbig (by omega)
    have hd : dwS S (13 + 14 * p) (4 + 2 * e) w = sEnd S (4 + 2 * e) 5 4 := by
      unfold dwS
      rw [if_neg (show ¬ fO w = 0 from hne 0 (by decide)), if_neg (show ¬ fO w = 1 from hne 1 (by decide)), if_neg (show ¬ fO w = 2 from hne 2 (by decide)), if_neg (show ¬ fO w = 3 from hne 3 (by decide)), if_neg (show ¬ fO w = 4 from hne 4 (by decide)), if_neg (show ¬ fO w = 5 from hne 5 (by decide)), if_neg (show ¬ fO w = 6 from hne 6 (by decide)), if_neg (show ¬ fO w = 7 from hne 7 (by decide)), if_neg (show ¬ fO w = 8 from hne 8 (by decide)), if_neg (show ¬ fO w = 9 from hne 9 (by decide)), if_neg (show ¬ fO w = 10 from hne 10 (by decide))]
    rw [hd, if_pos (show sEnd S (4 + 2 * e) 5 4 (4 + 2 * e) 1 = 5 by rw [sEnd_at, if_neg (by omega), if_pos ⟨rfl, rfl⟩]), if_neg (show ¬ fO w = 0 from hne 0 (by decide)), if_pos hbig']
    exact res_fault hp he hR h1 h2 h3 4
end
