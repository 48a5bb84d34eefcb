-- ===== the relation between the class's ints and the reference's =====
def fE (S : St) (e : Nat) : Nat := (S (4 + 2 * e) 2).toNatClampNeg
def nE (S : St) (e : Nat) : Nat := (S (4 + 2 * e) 3).toNatClampNeg
def EnI (S : St) (e : Nat) : Prop := S (4 + 2 * e) 2 = nI (fE S e) ∧ S (4 + 2 * e) 3 = nI (nE S e) ∧ 1 ≤ nE S e ∧ nE S e < 9 ∧ fE S e + nE S e ≤ 16 ∧ shS (S (4 + 2 * e) 5) = true
/-- processors: what runs on them -/
def InvP (S : St) : Prop := (∀ p, p < 2 → S (13 + 14 * p) 2 = -1 ∨ ∃ e, e < 4 ∧ S (13 + 14 * p) 2 = nI e ∧ S (4 + 2 * e) 1 = 2) ∧ (S 13 2 = S 27 2 → S 13 2 = -1)
/-- enclaves -/
def InvE (S : St) : Prop := (∀ e, e < 4 → ¬ S (4 + 2 * e) 1 = 0 → EnI S e) ∧ (∀ e, e < 4 → ∃ t, t < 6 ∧ S (4 + 2 * e) 1 = nI t)
/-- owners -/
def InvO (S : St) : Prop := S 2 0 = 0 ∧ (∀ g, 1 ≤ g → g < 16 → S 2 g = 1 ∨ ∃ e, e < 4 ∧ S 2 g = nI (2 + e)) ∧ (∀ e, e < 4 → ∀ g, g < 16 → (S 2 g = nI (2 + e) ↔ (¬ S (4 + 2 * e) 1 = 0 ∧ fE S e ≤ g ∧ g < fE S e + nE S e)))
/-- guards -/
def InvG (S : St) : Prop := ∀ p, p < 2 → ∀ k, k < 11 → ∀ j, j < 3 → S (13 + 14 * p + 3 + 1 * k) j = gsp S (13 + 14 * p) k j
def REn (S M : St) (e : Nat) : Prop := S (4 + 2 * e) 1 = M 5 e ∧ (¬ M 5 e = 0 → S (4 + 2 * e) 2 = M 6 e ∧ S (4 + 2 * e) 3 = M 7 e ∧ S (4 + 2 * e) 4 = M 8 e ∧ S (4 + 2 * e) 5 = M 9 e ∧ S (4 + 2 * e) 6 = M 10 e) ∧ S (4 + 2 * e) 8 = M 11 e ∧
  (M 5 e = 2 ∨ M 5 e = 3 → S (4 + 2 * e) 7 = M 12 e ∧ ∀ k, k < 8 → S (4 + 2 * e + 1) k = M 13 (8 * e + k))
def RelD (S M : St) : Prop := S 0 0 = M 0 0 ∧ S 0 5 = M 0 5 ∧ (∀ a, a < 256 → S 1 a = M 1 a) ∧ (∀ g, g < 16 → S 2 g = M 2 g) ∧ (∀ p, p < 2 → ∀ k, k < 8 → S (13 + 14 * p + 1) k = M 3 (8 * p + k)) ∧ (∀ e, e < 4 → REn S M e)
def Rel (S M : St) : Prop := RelD S M ∧ (∀ p, p < 2 → S (13 + 14 * p) 2 = M 4 p) ∧ InvP S ∧ InvE S ∧ InvO S ∧ InvG S
theorem InvP.ok {S : St} (h : InvP S) : ∀ k, k < 2 → PeOK S (13 + 14 * k) := by
  intro k hk
  rcases h.1 k hk with h1 | ⟨e, he, h1, -⟩
  · exact Or.inl h1
  · exact Or.inr (by rw [h1]; exact inr_nI (k := 4) he (by decide))
theorem InvE.ok {S : St} (h : InvE S) : ∀ k, k < 4 → ¬ S (4 + 2 * k) 1 = 0 → EnOK S (4 + 2 * k) := by
  intro k hk h0
  obtain ⟨h1, h2, -, -, h3, -⟩ := h.1 k hk h0
  exact ⟨h1, h2, h3⟩
-- ===== may an access be made: both say the same =====
theorem pair_gm {S : St} {e x : Nat} {r : Int32} (hI : InvE S) (he : e < 4) (hx : x < 256) : gmS (gUp (S (4 + 2 * e) 1) (S (4 + 2 * e) 2) (S (4 + 2 * e) 3) r 0) (gUp (S (4 + 2 * e) 1) (S (4 + 2 * e) 2) (S (4 + 2 * e) 3) r 2) (nI x) (gLo (S (4 + 2 * e) 1) (S (4 + 2 * e) 2) (S (4 + 2 * e) 3) 2) = inE (S (4 + 2 * e) 1) (fE S e) (nE S e) x := by
  by_cases h0 : S (4 + 2 * e) 1 = 0
  · rw [up_gm0 h0]
    unfold inE
    rw [decide_eq_true h0]
    rfl
  · obtain ⟨h1, h2, h3, h4, h5, h6⟩ := hI.1 e he h0
    have := up_gm (t := S (4 + 2 * e) 1) (f := fE S e) (n := nE S e) (x := x) (r := r) (by omega) h3 h4 h5 hx
    rw [← h1, ← h2] at this
    exact this
theorem inE_own {S : St} {e x : Nat} (hO : InvO S) (he : e < 4) (hx : x < 256) : inE (S (4 + 2 * e) 1) (fE S e) (nE S e) x = decide (S 2 (x / 16) = nI (2 + e)) := by
  have h := hO.2.2 e he (x / 16) (by omega)
  unfold inE
  by_cases h1 : S 2 (x / 16) = nI (2 + e)
  · obtain ⟨a, b, c⟩ := h.mp h1
    rw [decide_eq_true h1, decide_eq_false a, decide_eq_true (show 16 * fE S e ≤ x by omega), decide_eq_true (show x < 16 * (fE S e + nE S e) by omega)]
    rfl
  · rw [decide_eq_false h1]
    by_cases h2 : S (4 + 2 * e) 1 = 0
    · rw [decide_eq_true h2]; rfl
    · by_cases h3 : 16 * fE S e ≤ x
      · by_cases h4 : x < 16 * (fE S e + nE S e)
        · exact absurd (h.mpr ⟨h2, by omega, by omega⟩) h1
        · rw [decide_eq_false h4, Bool.and_false, Bool.and_false]
      · rw [decide_eq_false h3, Bool.false_and, Bool.and_false]
def rtS (S : St) (i e : Nat) (r : Int32) : Bool := !decide ((if S i 2 = nI e then (7 : Int32) else 0) &&& r = 0)
def alX (S : St) (i x : Nat) (r : Int32) : Bool :=
  if x < 16 then !decide ((0 : Int32) &&& r = 0) else if S 2 (x / 16) = nI 2 then rtS S i 0 r else if S 2 (x / 16) = nI 3 then rtS S i 1 r else if S 2 (x / 16) = nI 4 then rtS S i 2 r else if S 2 (x / 16) = nI 5 then rtS S i 3 r
  else if shX (shV S i) x = true then !decide ((3 : Int32) &&& r = 0) else !decide ((if S i 2 = -1 then (7 : Int32) else 0) &&& r = 0)
theorem al_step {S : St} {i n k : Nat} {z r : Int32} {g : Bool} {v : Int32} (hg : gmS (S (i + 3 + 1 * k) 0) (S (i + 3 + 1 * k) 2) z (befS S i k) = g) (hv : g = true → S (i + 3 + 1 * k) 1 = v) : alG S i z r (n + 1) k = if g = true then !decide (v &&& r = 0) else alG S i z r n (k + 1) := by
  cases g with
  | true => rw [alG_t hg, hv rfl, if_pos rfl]
  | false => rw [alG_f hg, if_neg (by decide)]
theorem shS_shV {S : St} {p : Nat} (hP : InvP S) (hE : InvE S) (hp : p < 2) : shS (shV S (13 + 14 * p)) = true := by
  unfold shV
  rcases hP.1 p hp with h | ⟨e, he, h, h2⟩
  · rw [if_pos h]; decide
  · rw [h, if_neg (fun q => by have := congrArg Int32.toInt q; rw [nI_toInt (by omega)] at this; have e1 : (-1 : Int32).toInt = -1 := by decide
                               rw [e1] at this; omega), nI_clamp (by omega)]
    exact (hE.1 e he (by rw [h2]; decide)).2.2.2.2.2
theorem alw_alX {S : St} {p x : Nat} {r : Int32} (hP : InvP S) (hE : InvE S) (hO : InvO S) (hG : InvG S) (hp : p < 2) (hx : x < 256) : alw S (13 + 14 * p) (nI x) r = alX S (13 + 14 * p) x r := by
  have G := hG p hp
  have g2 : ∀ e, e < 4 → ∀ j, j < 3 → S (13 + 14 * p + 3 + 1 * (1 + 2 * e)) j = gLo (S (4 + 2 * e) 1) (S (4 + 2 * e) 2) (S (4 + 2 * e) 3) j := by
    intro e he j hj
    rw [G (1 + 2 * e) (by omega) j hj]
    unfold gsp
    rw [if_neg (by omega), if_neg (by omega), if_neg (by omega), if_pos (by omega), show (1 + 2 * e - 1) / 2 = e by omega]
  have g3 : ∀ e, e < 4 → ∀ j, j < 3 → S (13 + 14 * p + 3 + 1 * (2 + 2 * e)) j = gUp (S (4 + 2 * e) 1) (S (4 + 2 * e) 2) (S (4 + 2 * e) 3) (if S (13 + 14 * p) 2 = nI e then 7 else 0) j := by
    intro e he j hj
    rw [G (2 + 2 * e) (by omega) j hj]
    unfold gsp
    rw [if_neg (by omega), if_neg (by omega), if_neg (by omega), if_neg (by omega), show (2 + 2 * e - 1) / 2 = e by omega]
  have lo : ∀ e, e < 4 → ∀ n, alG S (13 + 14 * p) (nI x) r (n + 1) (1 + 2 * e) = alG S (13 + 14 * p) (nI x) r n (2 + 2 * e) := by
    intro e he n
    rw [alG_f (by rw [g2 e he 0 (by decide), g2 e he 2 (by decide)]; exact lo_gm), show 1 + 2 * e + 1 = 2 + 2 * e by omega]
  have up : ∀ e, e < 4 → ∀ n, alG S (13 + 14 * p) (nI x) r (n + 1) (2 + 2 * e) = if S 2 (x / 16) = nI (2 + e) then rtS S (13 + 14 * p) e r else alG S (13 + 14 * p) (nI x) r n (3 + 2 * e) := by
    intro e he n
    have hb : befS S (13 + 14 * p) (2 + 2 * e) = gLo (S (4 + 2 * e) 1) (S (4 + 2 * e) 2) (S (4 + 2 * e) 3) 2 := by
      unfold befS
      rw [if_neg (by omega), show 2 + 2 * e - 1 = 1 + 2 * e by omega, g2 e he 2 (by decide)]
    have hgm : gmS (S (13 + 14 * p + 3 + 1 * (2 + 2 * e)) 0) (S (13 + 14 * p + 3 + 1 * (2 + 2 * e)) 2) (nI x) (befS S (13 + 14 * p) (2 + 2 * e)) = decide (S 2 (x / 16) = nI (2 + e)) := by
      rw [hb, g3 e he 0 (by decide), g3 e he 2 (by decide), pair_gm hE he hx, inE_own hO he hx]
    rw [al_step (v := if S (13 + 14 * p) 2 = nI e then 7 else 0) hgm (fun q => ?_), show 2 + 2 * e + 1 = 3 + 2 * e by omega]
    · by_cases h : S 2 (x / 16) = nI (2 + e)
      · rw [if_pos h, if_pos (decide_eq_true h)]
        rfl
      · rw [if_neg h, if_neg (by rw [decide_eq_false h]; decide)]
    · rw [g3 e he 1 (by decide)]
      exact up_r ((hO.2.2 e he (x / 16) (by omega)).mp (of_decide_eq_true q)).1
  have s0 : alG S (13 + 14 * p) (nI x) r 11 0 = if x < 16 then !decide ((0 : Int32) &&& r = 0) else alG S (13 + 14 * p) (nI x) r 10 1 := by
    rw [al_step (g := decide (x < 16)) (v := 0) (by rw [G 0 (by decide) 0 (by decide), G 0 (by decide) 2 (by decide)]; exact g0_gm hx _) (fun _ => by rw [G 0 (by decide) 1 (by decide)]; rfl)]
    by_cases h : x < 16
    · rw [if_pos h, if_pos (decide_eq_true h)]
    · rw [if_neg h, if_neg (by rw [decide_eq_false h]; decide)]
  have s9 : alG S (13 + 14 * p) (nI x) r 2 9 = if shX (shV S (13 + 14 * p)) x = true then !decide ((3 : Int32) &&& r = 0) else alG S (13 + 14 * p) (nI x) r 1 10 := by
    refine al_step (v := 3) ?_ (fun q => ?_)
    · rw [G 9 (by decide) 0 (by decide), G 9 (by decide) 2 (by decide)]
      exact sh_gm (shS_shV hP hE hp) hx
    · rw [G 9 (by decide) 1 (by decide)]
      exact sh_r (fun h => by rw [h, shX_m1] at q; cases q)
  have s10 : alG S (13 + 14 * p) (nI x) r 1 10 = !decide ((if S (13 + 14 * p) 2 = -1 then (7 : Int32) else 0) &&& r = 0) := by
    rw [al_step (g := true) (v := if S (13 + 14 * p) 2 = -1 then 7 else 0) (by rw [G 10 (by decide) 0 (by decide), G 10 (by decide) 2 (by decide)]; exact g10_gm hx _) (fun _ => by rw [G 10 (by decide) 1 (by decide)]; rfl), if_pos rfl]
  unfold alw alX
  rw [show inr (nI x) 256 = true from inr_nI (k := 256) hx (by decide), Bool.true_and, s0]
  by_cases h : x < 16
  · rw [if_pos h, if_pos h]
  · rw [if_neg h, if_neg h, lo 0 (by decide), up 0 (by decide), lo 1 (by decide), up 1 (by decide), lo 2 (by decide), up 2 (by decide), lo 3 (by decide), up 3 (by decide), s9, s10]

theorem m1_ne {k : Nat} (h : k < 2 ^ 31) : ¬ nI k = -1 := fun q => by
  have := congrArg Int32.toInt q
  rw [nI_toInt h] at this
  have e1 : (-1 : Int32).toInt = -1 := by decide
  rw [e1] at this
  omega
theorem rt_eq {S : St} {i e : Nat} {r : Int32} (hr : r = 1 ∨ r = 2 ∨ r = 4) : rtS S i e r = decide (S i 2 = nI e) := by
  unfold rtS
  by_cases h : S i 2 = nI e
  · rw [if_pos h, decide_eq_true h]
    rcases hr with rfl | rfl | rfl <;> decide
  · rw [if_neg h, decide_eq_false h]
    rcases hr with rfl | rfl | rfl <;> decide
/-- what the reference says, of an address x < 256 -/
theorem alM_x {M : St} {p x : Nat} {r : Int32} (hp : p < 2) (hx : x < 256) : alM M (nI p) (nI x) r =
    if M 2 (x / 16) = 0 then false else if M 2 (x / 16) ≤ 1 then (if M 4 p < 0 then true else if shX (M 9 (M 4 p).toNatClampNeg) x = true then !decide (r = 4) else false) else decide (M 2 (x / 16) = 2 + M 4 p) := by
  unfold alM
  have h1 : ¬ nI x < 0 := nI_pos (by omega)
  have h2 : ¬ (255 : Int32) < nI x := nI_nlt (a := 255) (by omega) (by decide)
  rw [if_neg h1, if_neg h2, n16 (by omega), nI_clamp (by omega), nI_clamp (by omega)]
  rfl
theorem alw_eq {S M : St} {p : Nat} {z r : Int32} (hR : Rel S M) (hp : p < 2) (hr : r = 1 ∨ r = 2 ∨ r = 4) : alw S (13 + 14 * p) z r = alM M (nI p) z r := by
  obtain ⟨⟨-, -, -, hown, -, hen⟩, hrun, hP, hE, hO, hG⟩ := hR
  rcases pk_ix z (show 256 < 2 ^ 31 by decide) with h | h | ⟨x, hx, rfl⟩
  · rw [show alM M (nI p) z r = false by unfold alM; rw [if_pos h]]
    unfold alw inr
    rw [decide_eq_true h]
    rfl
  · have h' : ¬ z < 0 := fun q => by
      have a := Int32.lt_iff_toInt_lt.mp q
      have b := Int32.le_iff_toInt_le.mp h
      rw [nI_toInt (by decide)] at b
      have e0 : (0 : Int32).toInt = 0 := by decide
      rw [e0] at a
      omega
    have h2 : (255 : Int32) < z := by
      refine Int32.lt_iff_toInt_lt.mpr ?_
      have b := Int32.le_iff_toInt_le.mp h
      rw [nI_toInt (by decide)] at b
      have e0 : (255 : Int32).toInt = 255 := by decide
      rw [e0]
      omega
    rw [show alM M (nI p) z r = false by unfold alM; rw [if_neg h', if_pos h2]]
    unfold alw inr
    rw [show decide ((256 : Int32) ≤ z) = true from decide_eq_true h, Bool.not_true, Bool.and_false, Bool.false_and]
  · rw [alw_alX hP hE hO hG hp hx, alM_x hp hx, ← hown _ (show x / 16 < 16 by omega), ← hrun p hp]
    unfold alX
    by_cases h16 : x < 16
    · rw [if_pos h16, show x / 16 = 0 by omega, hO.1, if_pos rfl]
      rcases hr with rfl | rfl | rfl <;> decide
    · rw [if_neg h16]
      rcases hO.2.1 (x / 16) (by omega) (by omega) with h1 | ⟨e, he, h1⟩
      · rw [h1, if_neg (show ¬ (1 : Int32) = nI 2 by decide), if_neg (show ¬ (1 : Int32) = nI 3 by decide), if_neg (show ¬ (1 : Int32) = nI 4 by decide), if_neg (show ¬ (1 : Int32) = nI 5 by decide), if_neg (show ¬ (1 : Int32) = 0 by decide), if_pos (show (1 : Int32) ≤ 1 by decide)]
        rcases hP.1 p hp with h2 | ⟨e, he, h2, h3⟩
        · have h4 : shV S (13 + 14 * p) = -1 := by unfold shV; rw [if_pos h2]
          rw [h4, shX_m1, h2, if_neg (show ¬ false = true by decide), if_pos (show (-1 : Int32) = -1 from rfl), if_pos (show (-1 : Int32) < 0 by decide)]
          rcases hr with rfl | rfl | rfl <;> decide
        · have hne := m1_ne (k := e) (by omega)
          have h4 : shV S (13 + 14 * p) = S (4 + 2 * e) 5 := by unfold shV; rw [h2, if_neg hne, nI_clamp (by omega)]
          obtain ⟨r1, r2, -, -⟩ := hen e he
          have r3 := (r2 (by rw [← r1, h3]; decide)).2.2.2.1
          rw [h4, h2, if_neg hne, if_neg (nI_pos (by omega)), nI_clamp (by omega), ← r3]
          by_cases h5 : shX (S (4 + 2 * e) 5) x = true
          · rw [if_pos h5, if_pos h5]
            rcases hr with rfl | rfl | rfl <;> decide
          · rw [if_neg h5, if_neg h5]
            rcases hr with rfl | rfl | rfl <;> decide
      · have k0 : ¬ nI (2 + e) = 0 := nI_ne0 (by omega) (by omega)
        have k1 : ¬ nI (2 + e) ≤ 1 := nI_ge (a := 1) (by omega) (by omega)
        rw [h1, if_neg k0, if_neg k1]
        have key : rtS S (13 + 14 * p) e r = decide (nI (2 + e) = 2 + S (13 + 14 * p) 2) := by
          rw [rt_eq hr]
          rcases hP.1 p hp with h2 | ⟨e', he', h2, h3⟩
          · rw [h2, decide_eq_false (fun q => m1_ne (k := e) (by omega) q.symm)]
            have : e = 0 ∨ e = 1 ∨ e = 2 ∨ e = 3 := by omega
            rcases this with rfl | rfl | rfl | rfl <;> decide
          · rw [h2, show (2 : Int32) = nI 2 from rfl, nI_add]
            by_cases h5 : e' = e
            · rw [h5, decide_eq_true rfl, decide_eq_true rfl]
            · rw [decide_eq_false (fun q => h5 ((nI_eq (by omega) (by omega)).mp q)), decide_eq_false (fun q => h5 (by have := (nI_eq (by omega) (by omega)).mp q; omega))]
        rw [← key]
        have : e = 0 ∨ e = 1 ∨ e = 2 ∨ e = 3 := by omega
        rcases this with rfl | rfl | rfl | rfl
        · rw [if_pos rfl]
        · rw [if_neg (by decide), if_pos rfl]
        · rw [if_neg (by decide), if_neg (by decide), if_pos rfl]
        · rw [if_neg (by decide), if_neg (by decide), if_neg (by decide), if_pos rfl]
