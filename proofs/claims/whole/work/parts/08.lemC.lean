/-! ===== part 08: lemmas of the reference's first half ===== -/
theorem any_t1 {f : Nat → Bool} {i z : Nat} (h : z = bN (anyB f i = true)) (hne : ¬ z = 0) : 1 = bN (anyB f (i + 1) = true) := by
  refine (bN_t ?_).symm
  show (anyB f i || f i) = true
  by_cases q : anyB f i = true
  · rw [q]; rfl
  · exact absurd (h.trans (bN_f q)) hne
theorem any_t2 {f : Nat → Bool} {i : Nat} (h : f i = true) : 1 = bN (anyB f (i + 1) = true) := by
  refine (bN_t ?_).symm
  show (anyB f i || f i) = true
  rw [h, Bool.or_true]
theorem any_f {f : Nat → Bool} {i z : Nat} (h : z = bN (anyB f i = true)) (h0 : z = 0) (hf : ¬ f i = true) : 0 = bN (anyB f (i + 1) = true) := by
  refine (bN_f ?_).symm
  show ¬ (anyB f i || f i) = true
  rw [Bool.or_eq_true]
  rintro (q | q)
  · rw [bN_t q] at h; omega
  · exact hf q
def bsI (G : GS) (q t tt z : Nat) : Prop := z < 2 ∧ ((z = 1 ∨ bsy G q tt = true) ↔ bsy G q t = true)
theorem bsI_0 (G : GS) (q t : Nat) : bsI G q t t 0 := ⟨by decide, ⟨fun h => h.resolve_left (by decide), fun h => Or.inr h⟩⟩
theorem bsy_s {G : GS} {q u : Nat} (h : G 9 (4 * u + 3) = 44) : bsy G q (u + 1) = true ↔ (inA G u = q ∨ inB G u = q) ∨ bsy G q u = true := by
  show (if G 9 (4 * u + 3) = 44 then (decide (inA G u = q) || decide (inB G u = q)) || bsy G q u else false) = true ↔ _
  rw [if_pos h, Bool.or_eq_true, Bool.or_eq_true, decide_eq_true_eq, decide_eq_true_eq]
theorem bsI_1 {G : GS} {q t u z : Nat} (h : bsI G q t (u + 1) z) (hz : z = 1 ∨ (G 9 (4 * u + 3) = 44 ∧ (inA G u = q ∨ inB G u = q))) : bsI G q t u 1 := by
  refine ⟨by decide, ⟨fun _ => h.2.mp ?_, fun _ => Or.inl rfl⟩⟩
  rcases hz with hz | ⟨h1, h2⟩
  · exact Or.inl hz
  · exact Or.inr ((bsy_s h1).mpr (Or.inl h2))
theorem bsI_n {G : GS} {q t u z : Nat} (h : bsI G q t (u + 1) z) (hz : z = 0) (h1 : G 9 (4 * u + 3) = 44) (h2 : ¬ (inA G u = q ∨ inB G u = q)) : bsI G q t u 0 := by
  refine ⟨by decide, ?_⟩
  rw [← h.2, bsy_s h1]
  constructor
  · rintro (q | q)
    · exact absurd q (by decide)
    · exact Or.inr (Or.inr q)
  · rintro (q | q | q)
    · omega
    · exact absurd q h2
    · exact Or.inr q
theorem bsI_e {G : GS} {q t tt z : Nat} (h : bsI G q t tt z) (he : bsy G q tt = false) : nI z = nI (bN (bsy G q t = true)) := by
  congr 1
  have h1 := h.1
  by_cases e : z = 1
  · rw [bN_t (h.2.mp (Or.inl e)), e]
  · rw [bN_f (fun r => ?_)]
    · omega
    · rcases h.2.mpr r with r | r
      · exact e r
      · rw [he] at r; exact absurd r (by decide)
theorem bsy_n {G : GS} {q u : Nat} (h : ¬ G 9 (4 * u + 3) = 44) : bsy G q (u + 1) = false := if_neg h
theorem erF_neg (G : GS) : ∀ k t, erF G k t = 0 ∨ (erF G k t).toInt < 0
  | 0, t => Or.inl rfl
  | k + 1, t => by
    rw [erF_s (by omega)]
    split
    · split
      · exact Or.inr (by decide)
      · split
        · exact erF_neg G _ _
        · exact Or.inr (by decide)
    · exact Or.inr (by decide)
theorem er_z {G : GS} (h : 0 ≤ (er G).toInt) : er G = 0 := (erF_neg G _ _).resolve_right (fun q => by unfold er at h; omega)
theorem er_n {G : GS} (h : (er G).toInt < 0) : ¬ er G = 0 := fun e => by rw [e] at h; exact absurd h (by decide)
def ldM (G : GS) : Nat → GS
  | 0 => up (up G 3 0 1) 4 0 0
  | t + 1 => ldG G (t + 1)
theorem ldM_o (G : GS) {k : Nat} (j : Nat) (h : k ≠ 3 ∧ k ≠ 4 ∧ k ≠ 5 ∧ k ≠ 6 ∧ k ≠ 7 ∧ k ≠ 8) : ∀ t, ldM G t k j = G k j
  | 0 => by show up _ _ _ _ k j = _; rw [up_k _ _ h.2.1, up_k _ _ h.1]
  | t + 1 => ldG_o G j h (t + 1)
theorem ldM_4 (G : GS) : ∀ t, ldM G t 4 0 = t
  | 0 => rfl
  | t + 1 => ldG_4 G (t + 1)
theorem ldM_3 (G : GS) : ∀ t, 1 ≤ ldM G t 3 0
  | 0 => Nat.le_refl 1
  | t + 1 => (ldG_3 G (t + 1)).2 (by omega)
theorem ldM_p {G : GS} {t : Nat} (h : 0 < t) : ldM G t = ldG G t := by
  obtain ⟨t, rfl⟩ : ∃ z, t = z + 1 := ⟨t - 1, by omega⟩
  rfl
theorem ldM_0 {G : GS} {t : Nat} (h : 4 * t ≤ 0) : putG (up (ldM G t) 3 0 (ldM G t 3 0 + 0)) (inA G t) (inB G t) (inW G t) = ldG G (t + 1) := by
  obtain rfl : t = 0 := by omega
  rw [ldG_s1 (Or.inl rfl)]
  have e : up (ldM G 0) 3 0 (ldM G 0 3 0 + 0) = up (ldG G 0) 3 0 (ldG G 0 3 0 + 1) := by
    show up (up (up G 3 0 1) 4 0 0) 3 0 1 = up (up (up G 3 0 0) 4 0 0) 3 0 1
    rw [up_comm (up G 3 0 1) (by decide), up_comm (up G 3 0 0) (by decide), up_up, up_up]
  rw [e]
theorem ldM_1 {G : GS} {t : Nat} (h : 0 < t) (hs : G 9 (4 * t - 1) = 59) : putG (up (ldM G t) 3 0 (ldM G t 3 0 + 1)) (inA G t) (inB G t) (inW G t) = ldG G (t + 1) := by
  rw [ldG_s1 (Or.inr hs), ldM_p h]
theorem ldM_2 {G : GS} {t : Nat} (h : 0 < t) (hs : ¬ G 9 (4 * t - 1) = 59) : putG (up (ldM G t) 3 0 (ldM G t 3 0 + 0)) (inA G t) (inB G t) (inW G t) = ldG G (t + 1) := by
  rw [ldG_s2 (by omega), ldM_p h, Nat.add_zero, up_id]
theorem allE_f1 {G : GS} {k z : Nat} (h : z = bN (allE G k = true)) (hz : z = 0) : 0 = bN (allE G (k + 1) = true) := by
  refine (bN_f ?_).symm
  show ¬ (allE G k && _) = true
  rw [Bool.and_eq_true]
  rintro ⟨q, _⟩
  rw [bN_t q] at h; omega
theorem allE_f2 {G : GS} {k : Nat} (he : ¬ edge G 0 (k + 1)) : 0 = bN (allE G (k + 1) = true) := by
  refine (bN_f ?_).symm
  rw [allE_no he (k + 1) (by omega)]; decide
theorem allE_t {G : GS} {k z : Nat} (h : z = bN (allE G k = true)) (hz : ¬ z = 0) (he : edge G 0 (k + 1)) : 1 = bN (allE G (k + 1) = true) := by
  by_cases q : allE G k = true
  · exact (bN_t (allE_s q he)).symm
  · exact absurd (h.trans (bN_f q)) hz
theorem gsF_g {G : GS} {w n : Nat} (hw : w = gsW G) (hn : gsN G = n) : gsF G = spr (gat (dropG G) w 1 (G 0 0 - 1)) w 1 n := by
  subst hw; subst hn; rfl
def dsN (G : GS) (j : Nat) : Nat := 1000 * G 5 j + 100 * G 8 j + 10 * G 6 j + G 7 j
theorem sp_desc_nI {G : GS} {j : Nat} (h : j < G 4 0) (hc : G 4 0 ≤ 28) : sp_desc G (nI j) = nI (dsN G j) := by
  rw [sp_desc, if_pos (inR_nI h (by omega)), toNat_nI (by omega)]; rfl
