-- ===== what the invariants look at =====
def Inv4 (S : St) : Prop := InvP S ∧ InvE S ∧ InvO S ∧ InvG S
def Same (S T : St) : Prop := (∀ g, T 2 g = S 2 g) ∧ (∀ e, e < 4 → ∀ j, j = 1 ∨ j = 2 ∨ j = 3 ∨ j = 5 → T (4 + 2 * e) j = S (4 + 2 * e) j) ∧ (∀ p, p < 2 → T (13 + 14 * p) 2 = S (13 + 14 * p) 2) ∧ (∀ p, p < 2 → ∀ k, k < 11 → ∀ j, T (13 + 14 * p + 3 + 1 * k) j = S (13 + 14 * p + 3 + 1 * k) j)
theorem gsp_congr {S T : St} {i : Nat} (hP : PeOK S i) (h1 : T i 2 = S i 2) (h2 : ∀ e, e < 4 → ∀ j, j = 1 ∨ j = 2 ∨ j = 3 ∨ j = 5 → T (4 + 2 * e) j = S (4 + 2 * e) j) : ∀ k, k < 11 → ∀ j, gsp T i k j = gsp S i k j := by
  intro k hk j
  unfold gsp
  rw [h1]
  by_cases h0 : k = 0
  · rw [if_pos h0, if_pos h0]
  by_cases h10 : k = 10
  · rw [if_neg h0, if_pos h10, if_neg h0, if_pos h10]
  by_cases h9 : k = 9
  · rw [if_neg h0, if_neg h10, if_pos h9, if_neg h0, if_neg h10, if_pos h9, shV_congr (S := S) h1 (fun e he => h2 e he 5 (by simp)) hP]
  rw [if_neg h0, if_neg h10, if_neg h9, if_neg h0, if_neg h10, if_neg h9]
  have he : (k - 1) / 2 < 4 := by omega
  rw [h2 _ he 1 (by simp), h2 _ he 2 (by simp), h2 _ he 3 (by simp)]
theorem Inv4.same {S T : St} (hI : Inv4 S) (h : Same S T) : Inv4 T := by
  obtain ⟨hP, hE, hO, hG⟩ := hI
  obtain ⟨h1, h2, h3, h4⟩ := h
  have hf : ∀ e, e < 4 → fE T e = fE S e := fun e he => by unfold fE; rw [h2 e he 2 (by simp)]
  have hn : ∀ e, e < 4 → nE T e = nE S e := fun e he => by unfold nE; rw [h2 e he 3 (by simp)]
  refine ⟨⟨fun p hp => ?_, ?_⟩, ⟨fun e he h0 => ?_, fun e he => ?_⟩, ⟨?_, fun g hg1 hg => ?_, fun e he g hg => ?_⟩, fun p hp k hk j hj => ?_⟩
  · rw [h3 p hp]
    rcases hP.1 p hp with q | ⟨e, he, q1, q2⟩
    · exact Or.inl q
    · exact Or.inr ⟨e, he, q1, by rw [h2 e he 1 (by simp)]; exact q2⟩
  · have a := h3 0 (by decide)
    have b := h3 1 (by decide)
    intro q
    rw [show (13 : Nat) = 13 + 14 * 0 from rfl, a] at q ⊢
    rw [show (27 : Nat) = 13 + 14 * 1 from rfl, b] at q
    exact hP.2 q
  · rw [h2 e he 1 (by simp)] at h0
    obtain ⟨a, b, c, d, f, g⟩ := hE.1 e he h0
    unfold EnI
    rw [hf e he, hn e he, h2 e he 2 (by simp), h2 e he 3 (by simp), h2 e he 5 (by simp)]
    exact ⟨a, b, c, d, f, g⟩
  · rw [h2 e he 1 (by simp)]
    exact hE.2 e he
  · rw [h1]; exact hO.1
  · rw [h1]; exact hO.2.1 g hg1 hg
  · rw [h1, h2 e he 1 (by simp), hf e he, hn e he]
    exact hO.2.2 e he g hg
  · rw [h4 p hp k hk, hG p hp k hk j hj, gsp_congr (hP.ok p hp) (h3 p hp) h2 k hk]
theorem Same.c {S : St} {c j : Nat} {v : Int32} (h1 : c ≠ 2) (h2 : ∀ e, e < 4 → c ≠ 4 + 2 * e) (h3 : ∀ p, p < 2 → c ≠ 13 + 14 * p) (h4 : ∀ p, p < 2 → ∀ k, k < 11 → c ≠ 13 + 14 * p + 3 + 1 * k) : Same S (up2 S c j v) :=
  ⟨fun g => by rw [up2_ne (Ne.symm h1)], fun e he j _ => by rw [up2_ne (Ne.symm (h2 e he))], fun p hp => by rw [up2_ne (Ne.symm (h3 p hp))], fun p hp k hk j => by rw [up2_ne (Ne.symm (h4 p hp k hk))]⟩
theorem Same.e {S : St} {e j : Nat} {v : Int32} (he : e < 4) (h : j = 4 ∨ j = 6 ∨ j = 7 ∨ j = 8) : Same S (up2 S (4 + 2 * e) j v) := by
  refine ⟨fun g => by rw [up2_ne (by omega)], fun e' he' j' h' => ?_, fun p hp => by rw [up2_ne (by omega)], fun p hp k hk j => by rw [up2_ne (by omega)]⟩
  rw [up2_at, if_neg (by omega)]
theorem Same.tr {S T U : St} (h1 : Same S T) (h2 : Same T U) : Same S U :=
  ⟨fun g => (h2.1 g).trans (h1.1 g), fun e he j hj => (h2.2.1 e he j hj).trans (h1.2.1 e he j hj), fun p hp => (h2.2.2.1 p hp).trans (h1.2.2.1 p hp), fun p hp k hk j => (h2.2.2.2 p hp k hk j).trans (h1.2.2.2 p hp k hk j)⟩
theorem REn.of {S M S' M' : St} {e : Nat} (h : REn S M e) (hS : ∀ j, S' (4 + 2 * e) j = S (4 + 2 * e) j) (hS2 : ∀ k, k < 8 → S' (4 + 2 * e + 1) k = S (4 + 2 * e + 1) k) (hM : ∀ c, 5 ≤ c → c ≤ 12 → M' c e = M c e) (hM2 : ∀ k, k < 8 → M' 13 (8 * e + k) = M 13 (8 * e + k)) : REn S' M' e := by
  obtain ⟨a, b, c, d⟩ := h
  refine ⟨by rw [hS, hM 5 (by decide) (by decide)]; exact a, fun q => ?_, by rw [hS, hM 11 (by decide) (by decide)]; exact c, fun q => ?_⟩
  · rw [hM 5 (by decide) (by decide)] at q
    rw [hS, hS, hS, hS, hS, hM 6 (by decide) (by decide), hM 7 (by decide) (by decide), hM 8 (by decide) (by decide), hM 9 (by decide) (by decide), hM 10 (by decide) (by decide)]
    exact b q
  · rw [hM 5 (by decide) (by decide)] at q
    obtain ⟨d1, d2⟩ := d q
    exact ⟨by rw [hS, hM 12 (by decide) (by decide)]; exact d1, fun k hk => by rw [hS2 k hk, hM2 k hk]; exact d2 k hk⟩
theorem REn.up {S M : St} {e c j d i : Nat} {v w : Int32} (h : REn S M e) (h1 : c ≠ 4 + 2 * e) (h2 : c ≠ 4 + 2 * e + 1) (h3 : d < 5) : REn (up2 S c j v) (up2 M d i w) e :=
  h.of (fun j => by rw [up2_ne (Ne.symm h1)]) (fun k _ => by rw [up2_ne (Ne.symm h2)]) (fun c h5 _ => by rw [up2_ne (by omega)]) (fun k _ => by rw [up2_ne (by omega)])
theorem Rel.inv {S M : St} (h : Rel S M) : Inv4 S := h.2.2
-- ===== the calls that change no enclave =====
section
variable {S M : St}
theorem pe_lt (hR : Rel S M) {p : Nat} (hp : p < 2) : S (13 + 14 * p) 2 = -1 ↔ M 4 p < 0 := by
  rw [← hR.2.1 p hp]
  rcases hR.2.2.1.1 p hp with h | ⟨e, he, h, -⟩
  · rw [h]
    exact ⟨fun _ => by decide, fun _ => rfl⟩
  · rw [h]
    exact ⟨fun q => absurd q (m1_ne (by omega)), fun q => absurd q (nI_pos (by omega))⟩
theorem busy_eq (hR : Rel S M) (z : Int32) : busyS S z = bsM M z := by
  unfold busyS bsM
  cases h : inr z 2 with
  | false => rfl
  | true =>
    have hp := inr_j (k := 2) rfl (by decide) h
    by_cases q : S (13 + 14 * z.toNatClampNeg) 2 = -1
    · rw [decide_eq_true q, decide_eq_true ((pe_lt hR hp).mp q)]
    · rw [decide_eq_false q, decide_eq_false (fun w => q ((pe_lt hR hp).mpr w))]
theorem runs_eq (hR : Rel S M) (z : Int32) : runsS S z = rnM M z := by
  unfold runsS rnM
  cases h : inr z 2 with
  | false => rfl
  | true =>
    have hp := inr_j (k := 2) rfl (by decide) h
    by_cases q : S (13 + 14 * z.toNatClampNeg) 2 = -1
    · rw [decide_eq_true q, decide_eq_true ((pe_lt hR hp).mp q)]
    · rw [decide_eq_false q, decide_eq_false (fun w => q ((pe_lt hR hp).mpr w))]
theorem thr_eq (hR : Rel S M) (q : Int32) : thrS S q = thM M q := by
  unfold thrS thM
  cases h : inr q 4 with
  | false => rfl
  | true => rw [(hR.1.2.2.2.2.2 _ (inr_j (k := 4) rfl (by decide) h)).1]
theorem bs_p {z : Int32} (h : bsM M z = false) : ∃ p, p < 2 ∧ z = nI p := inr_ex (k := 2) (by decide) rfl (bsM_in h)
theorem Rel.denied (hR : Rel S M) : Rel (up2 S 0 5 (S 0 5 + 1)) (up2 M 0 5 (M 0 5 + 1)) := by
  obtain ⟨⟨a1, a2, a3, a4, a5, a6⟩, b, hI⟩ := hR
  refine ⟨⟨?_, ?_, fun a ha => ?_, fun g hg => ?_, fun p hp k hk => ?_, fun e he => ?_⟩, fun p hp => ?_, Inv4.same hI (Same.c (by omega) (by omega) (by omega) (by omega))⟩
  · rw [up2_at, up2_at]; simpa using a1
  · rw [up2_at, up2_at, a2]
  · rw [up2_ne (by omega), up2_ne (by omega)]; exact a3 a ha
  · rw [up2_ne (by omega), up2_ne (by omega)]; exact a4 g hg
  · rw [up2_ne (by omega), up2_ne (by omega)]; exact a5 p hp k hk
  · exact (a6 e he).up (by omega) (by omega) (by omega)
  · rw [up2_ne (by omega), up2_ne (by omega)]; exact b p hp
theorem Rel.mem (hR : Rel S M) (a : Nat) (v : Int32) : Rel (up2 S 1 a v) (up2 M 1 a v) := by
  obtain ⟨⟨a1, a2, a3, a4, a5, a6⟩, b, hI⟩ := hR
  refine ⟨⟨?_, ?_, fun a' ha => ?_, fun g hg => ?_, fun p hp k hk => ?_, fun e he => ?_⟩, fun p hp => ?_, Inv4.same hI (Same.c (by omega) (by omega) (by omega) (by omega))⟩
  · rw [up2_ne (by omega), up2_ne (by omega)]; exact a1
  · rw [up2_ne (by omega), up2_ne (by omega)]; exact a2
  · rw [up2_at, up2_at]
    by_cases h : a' = a
    · simp [h]
    · simp [h]; exact a3 a' ha
  · rw [up2_ne (by omega), up2_ne (by omega)]; exact a4 g hg
  · rw [up2_ne (by omega), up2_ne (by omega)]; exact a5 p hp k hk
  · exact (a6 e he).up (by omega) (by omega) (by omega)
  · rw [up2_ne (by omega), up2_ne (by omega)]; exact b p hp
theorem Rel.reg (hR : Rel S M) {p k : Nat} (hp : p < 2) (hk : k < 8) (v : Int32) : Rel (up2 S (13 + 14 * p + 1) k v) (up2 M 3 (8 * p + k) v) := by
  obtain ⟨⟨a1, a2, a3, a4, a5, a6⟩, b, hI⟩ := hR
  refine ⟨⟨?_, ?_, fun a' ha => ?_, fun g hg => ?_, fun p' hp' k' hk' => ?_, fun e he => ?_⟩, fun p' hp' => ?_, Inv4.same hI (Same.c (by omega) (by omega) (by omega) (by omega))⟩
  · rw [up2_ne (by omega), up2_ne (by omega)]; exact a1
  · rw [up2_ne (by omega), up2_ne (by omega)]; exact a2
  · rw [up2_ne (by omega), up2_ne (by omega)]; exact a3 a' ha
  · rw [up2_ne (by omega), up2_ne (by omega)]; exact a4 g hg
  · rw [up2_at, up2_at]
    by_cases h : p' = p ∧ k' = k
    · rw [if_pos (by omega), if_pos (by omega)]
    · rw [if_neg (by omega), if_neg (by omega)]; exact a5 p' hp' k' hk'
  · exact (a6 e he).up (by omega) (by omega) (by omega)
  · rw [up2_ne (by omega), up2_ne (by omega)]; exact b p' hp'
theorem R_load (hR : Rel S M) (z a : Int32) : vLoad S z a = wLoad M z a ∧ Rel (sLoad S z a) (tLoad M z a) := by
  unfold vLoad wLoad sLoad tLoad
  rw [busy_eq hR]
  by_cases h : bsM M z = true
  · rw [if_pos h, if_pos h, if_pos h, if_pos h]; exact ⟨rfl, hR⟩
  · rw [if_neg h, if_neg h, if_neg h, if_neg h]
    obtain ⟨p, hp, rfl⟩ := bs_p (by simpa using h)
    rw [nI_clamp (by omega), alw_eq hR hp (Or.inl rfl)]
    by_cases h2 : alM M (nI p) a 1 = true
    · rw [if_pos h2, if_pos h2, if_pos h2, if_pos h2]
      exact ⟨by rw [hR.1.2.2.1 _ (inr_j (k := 256) rfl (by decide) (alM_in h2))], hR⟩
    · rw [if_neg h2, if_neg h2, if_neg h2, if_neg h2]
      exact ⟨rfl, hR.denied⟩
theorem R_store (hR : Rel S M) (z a v : Int32) : vStore S z a = wStore M z a ∧ Rel (sStore S z a v) (tStore M z a v) := by
  unfold vStore wStore sStore tStore
  rw [busy_eq hR]
  by_cases h : bsM M z = true
  · rw [if_pos h, if_pos h, if_pos h, if_pos h]; exact ⟨rfl, hR⟩
  · rw [if_neg h, if_neg h, if_neg h, if_neg h]
    obtain ⟨p, hp, rfl⟩ := bs_p (by simpa using h)
    rw [nI_clamp (by omega), alw_eq hR hp (Or.inr (Or.inl rfl))]
    by_cases h2 : alM M (nI p) a 2 = true
    · rw [if_pos h2, if_pos h2, if_pos h2]
      exact ⟨rfl, hR.mem _ _⟩
    · rw [if_neg h2, if_neg h2, if_neg h2]
      exact ⟨rfl, hR.denied⟩
theorem R_give (hR : Rel S M) (z k v : Int32) : vGive S z k = wGive M z k ∧ Rel (sGive S z k v) (tGive M z k v) := by
  unfold vGive wGive sGive tGive
  rw [busy_eq hR]
  by_cases h : bsM M z = true
  · rw [if_pos h, if_pos h]; exact ⟨rfl, hR⟩
  · rw [if_neg h, if_neg h]
    obtain ⟨p, hp, rfl⟩ := bs_p (by simpa using h)
    refine ⟨rfl, ?_⟩
    by_cases h2 : inr k 8 = true
    · rw [if_pos h2, if_pos h2, nI_clamp (by omega)]
      exact hR.reg hp (inr_j (k := 8) rfl (by decide) h2) v
    · rw [if_neg h2, if_neg h2]; exact hR
theorem R_reg (hR : Rel S M) (z k : Int32) : vReg S z k = wReg M z k := by
  unfold vReg wReg
  rw [busy_eq hR]
  by_cases h : bsM M z = true
  · rw [if_pos h, if_pos h]
  · rw [if_neg h, if_neg h]
    obtain ⟨p, hp, rfl⟩ := bs_p (by simpa using h)
    by_cases h2 : inr k 8 = true
    · rw [if_pos h2, if_pos h2, nI_clamp (by omega), hR.1.2.2.2.2.1 p hp _ (inr_j (k := 8) rfl (by decide) h2)]
    · rw [if_neg h2, if_neg h2]
theorem R_state (hR : Rel S M) (q : Int32) : (if inr q 4 = true then S (4 + 2 * q.toNatClampNeg) 1 else -1) = (if inr q 4 = true then M 5 q.toNatClampNeg else -1) := by
  by_cases h : inr q 4 = true
  · rw [if_pos h, if_pos h]; exact (hR.1.2.2.2.2.2 _ (inr_j (k := 4) rfl (by decide) h)).1
  · rw [if_neg h, if_neg h]
theorem R_own (hR : Rel S M) (q : Int32) : (if inr q 16 = true then S 2 q.toNatClampNeg else -1) = (if inr q 16 = true then M 2 q.toNatClampNeg else -1) := by
  by_cases h : inr q 16 = true
  · rw [if_pos h, if_pos h]; exact hR.1.2.2.2.1 _ (inr_j (k := 16) rfl (by decide) h)
  · rw [if_neg h, if_neg h]
theorem R_run (hR : Rel S M) (q : Int32) : (if inr q 2 = true then S (13 + 14 * q.toNatClampNeg) 2 else -2) = (if inr q 2 = true then M 4 q.toNatClampNeg else -2) := by
  by_cases h : inr q 2 = true
  · rw [if_pos h, if_pos h]; exact hR.2.1 _ (inr_j (k := 2) rfl (by decide) h)
  · rw [if_neg h, if_neg h]
theorem R_mea (hR : Rel S M) (q : Int32) : vMea S q = wMea M q := by
  unfold vMea wMea
  rw [thr_eq hR]
  by_cases h : thM M q = true
  · rw [if_pos h, if_pos h]
    have he := inr_j (k := 4) rfl (by decide) (thM_in h)
    rw [((hR.1.2.2.2.2.2 _ he).2.1 (by unfold thM at h; rw [Bool.and_eq_true] at h; simpa using h.2)).2.2.2.2]
  · rw [if_neg h, if_neg h]
theorem R_rel (hR : Rel S M) (q : Int32) : vRel S q = wRel M q := by
  unfold vRel wRel
  rw [thr_eq hR]
  by_cases h : thM M q = true
  · have he := inr_j (k := 4) rfl (by decide) (thM_in h)
    obtain ⟨r1, -, r3, -⟩ := hR.1.2.2.2.2.2 _ he
    rw [if_neg (show ¬ thM M q = false by rw [h]; decide), if_pos h, r3]
    obtain ⟨t, ht, h2⟩ := hR.2.2.2.1.2 _ he
    rw [h2] at r1 ⊢
    rw [← r1]
    have : t = 0 ∨ t = 1 ∨ t = 2 ∨ t = 3 ∨ t = 4 ∨ t = 5 := by omega
    rcases this with rfl | rfl | rfl | rfl | rfl | rfl <;> rfl
  · rw [if_pos (show thM M q = false by simpa using h), if_neg h]
end
