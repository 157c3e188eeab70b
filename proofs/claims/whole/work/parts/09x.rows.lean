/-! ===== part 09x: more rows and lemmas for the knowledge methods ===== -/
theorem lg_cmp0 (x y : Int64) : lg_cmp x y = 0 ↔ x = y := by
  unfold lg_cmp
  by_cases h : x > y
  · rw [if_pos h]
    constructor
    · intro q; exact absurd q (by decide)
    · intro q; subst q; exact absurd h (by simp)
  · rw [if_neg h]
    by_cases e : x = y
    · rw [if_pos e]; exact ⟨fun _ => e, fun _ => rfl⟩
    · rw [if_neg e]; exact ⟨fun q => absurd q (by decide), fun q => absurd q e⟩
section VL
variable {p : Program} {l : Launch} {e : Env} {R : Room} {s : State} {m : MethodId} {args : Array Value} {below : List Frame} {meth : Method} {c : Code} {nL cells slots : Nat} {Q : State → Prop} {I : Heap → List Loc → Prop} {cc : ByteArray} {Ts : List Cond} {own : String} {pc : Nat} {lv : List (Nat × Value)} {st : List Value}
theorem x_ifL_ne {a b : Nat} {off : Int} {tgt : Nat} (F : CallFix p m c cc nL s args Ts own) (hdg : decode cc pc = .ok (.ifCond .ne off, 3)) (ht : (pc : Int) + off = (tgt : Int)) (ha : a < 2 ^ 64) (hb : b < 2 ^ 64) (kt : ¬ a = b → V p l e R s m args below meth c nL cells slots Q I tgt lv st) (kf : a = b → V p l e R s m args below meth c nL cells slots Q I (pc + 3) lv st) : V p l e R s m args below meth c nL cells slots Q I pc lv (.int (lg_cmp (lN a) (lN b)) :: st) :=
  x_if_ne F hdg ht (fun h => kt (fun q => h ((lg_cmp0 _ _).mpr (by rw [q])))) (fun h => kf ((wb_eq ha hb).mp ((lg_cmp0 _ _).mp h)))
end VL
theorem k0_or (i : Nat) : pkN k0 i ||| 1 * 2 ^ (8 * i + i) = pkN k0 (i + 1) := by
  show _ = pkN k0 i ||| 2 ^ i * 2 ^ (8 * i)
  rw [Nat.one_mul, ← Nat.pow_add, Nat.add_comm]
theorem two_12 {a : Nat} (h : a ≤ 28) : 1 * 2 ^ a < 2 ^ 32 := by
  rw [Nat.one_mul]; exact Nat.pow_lt_pow_right (by decide) (by omega)
def sp_know (G : GS) (x y : Int32) : Int32 := if inR x (G 0 0) then (if 0 ≤ y.toInt ∧ y.toInt ≤ (G 3 0 : Int) then nI (kr G (rdF G y.toInt.toNat) (G 4 0) x.toInt.toNat) else -5) else -6
abbrev crit (G : GS) (j : Nat) : Prop := cmp G allT = true ∧ ¬ cmp G (butF j) = true
def sp_crit (G : GS) (x : Int32) : Int32 := if inR x (G 4 0) then nI (bN (crit G x.toInt.toNat)) else -7
theorem sp_crit_nI {G : GS} {j : Nat} (h : j < G 4 0) (hc : G 4 0 ≤ 28) : sp_crit G (nI j) = nI (bN (crit G j)) := by
  rw [sp_crit, if_pos (inR_nI h (by omega)), toNat_nI (by omega)]
theorem rdN_t {G : GS} {i rn : Nat} (h : rn = rdN G i) (hl : lrn G i (kr G allT i)) : rn = rdN G (i + 1) := by
  show _ = rdN G i + bN (¬ lrn G i (kr G allT i))
  rw [bN_f (fun q => q hl), h]; rfl
theorem rdN_f {G : GS} {i rn : Nat} (h : rn = rdN G i) (hl : ¬ lrn G i (kr G allT i)) : rn + 1 = rdN G (i + 1) := by
  show _ = rdN G i + bN (¬ lrn G i (kr G allT i))
  rw [bN_t hl, h]
theorem rd_eq {G : GS} (hG : ok G) {i : Nat} (hi : i < G 4 0) : pkN (stp G i (kr G allT i)) (G 0 0) = pkN (kr G allT i) (G 0 0) ↔ ¬ lrn G i (kr G allT i) := by
  have ha := ok_in hG i hi
  have hX := kr_256 hG allT (c := i) (by omega)
  rw [← lrn_iff ha.1 ha.2]
  exact ⟨fun q => pk_inj (by have := stp_lt (m := 8) ha.1 ha.2 hX; exact this) hX q, fun q => pk_cong _ q⟩
theorem stp_256 {G : GS} (hG : ok G) (f : Nat → Bool) {i : Nat} (hi : i < G 4 0) : ∀ p, p < G 0 0 → stp G i (kr G f i) p < 256 := stp_lt (m := 8) (ok_in hG i hi).1 (ok_in hG i hi).2 (kr_256 hG f (by omega))
-- masks
theorem tb_hi {i j : Nat} (h : j < 2 ^ i) : tbF j i = false := Nat.testBit_lt_two_pow h
theorem tb_sum {i j c : Nat} (hj : j < 2 ^ i) (hc : c < i) : tbF (2 ^ i + j) c = tbF j c := by
  unfold tbF
  have e : 2 ^ i + j = 2 ^ i * 1 + j := by rw [Nat.mul_one]
  rw [e, Nat.testBit_two_pow_mul_add _ hj, if_pos hc]
theorem tb_top {i j : Nat} (hj : j < 2 ^ i) : tbF (2 ^ i + j) i = true := by
  unfold tbF
  have e : 2 ^ i + j = 2 ^ i * 1 + j := by rw [Nat.mul_one]
  rw [e, Nat.testBit_two_pow_mul_add _ hj, if_neg (by omega), Nat.sub_self]; rfl
theorem fill_hi {G : GS} {i j : Nat} (hj : j < 2 ^ i) (X : Nat → Nat) : krS G (tbF (2 ^ i + j)) X (i + 1) = stp G i (krS G (tbF j) X i) := by
  rw [kr_t (tb_top hj), kr_cong i (fun c hc => tb_sum hj hc)]
theorem fill_lo {G : GS} {i j : Nat} (hj : j < 2 ^ i) (X : Nat → Nat) : krS G (tbF j) X (i + 1) = krS G (tbF j) X i := kr_f (by rw [tb_hi hj]; decide)
def mkI (G : GS) (L : Nat → Nat) (i : Nat) : Prop := ∀ m, m < 2 ^ i → L m = pkN (kr G (tbF m) i) (G 0 0)
theorem mkI_0 {G : GS} (L : Nat → Nat) : mkI G (un L 0 (pkN k0 (G 0 0))) 0 := by
  intro m hm
  obtain rfl : m = 0 := by have : m < 1 := hm; omega
  exact if_pos rfl
def mkJ (G : GS) (L : Nat → Nat) (i j : Nat) : Prop := (∀ m, m < 2 ^ i → L m = pkN (kr G (tbF m) i) (G 0 0)) ∧ ∀ m, m < j → L (2 ^ i + m) = pkN (kr G (tbF (2 ^ i + m)) (i + 1)) (G 0 0)
theorem mkJ_0 {G : GS} {L : Nat → Nat} {i : Nat} (h : mkI G L i) : mkJ G L i 0 := ⟨h, fun m hm => absurd hm (Nat.not_lt_zero m)⟩
theorem mkJ_s {G : GS} {L : Nat → Nat} {i j : Nat} (h : mkJ G L i j) (hj : j < 2 ^ i) : mkJ G (un L (2 ^ i + j) (pkN (stp G i (kr G (tbF j) i)) (G 0 0))) i (j + 1) := by
  refine ⟨fun m hm => ?_, fun m hm => ?_⟩
  · rw [← h.1 m hm]; exact if_neg (by omega)
  · by_cases e : m = j
    · subst e
      rw [show un L (2 ^ i + m) _ (2 ^ i + m) = _ from if_pos rfl, ← fill_hi hj]
    · rw [← h.2 m (by omega)]; exact if_neg (by omega)
theorem mkJ_e {G : GS} {L : Nat → Nat} {i : Nat} (h : mkJ G L i (2 ^ i)) : mkI G L (i + 1) := by
  intro m hm
  by_cases e : m < 2 ^ i
  · rw [h.1 m e]; exact congrArg (fun X => pkN X (G 0 0)) (fill_lo e k0).symm
  · have h1 := h.2 (m - 2 ^ i) (by rw [Nat.pow_succ] at hm; omega)
    rw [show 2 ^ i + (m - 2 ^ i) = m by omega] at h1
    exact h1
-- the smallest set
def smF (G : GS) (lim : Nat) : Nat → Nat
  | 0 => lim
  | k + 1 => if cmp G (tbF k) = true ∧ popN k 12 < smF G lim k then popN k 12 else smF G lim k
def smB (G : GS) (lim : Nat) : Nat → Int32
  | 0 => -1
  | k + 1 => if cmp G (tbF k) = true ∧ popN k 12 < smF G lim k then nI k else smB G lim k
theorem sm_t {G : GS} {lim k : Nat} (h : cmp G (tbF k) = true ∧ popN k 12 < smF G lim k) : smF G lim (k + 1) = popN k 12 ∧ smB G lim (k + 1) = nI k := ⟨if_pos h, if_pos h⟩
theorem sm_f {G : GS} {lim k : Nat} (h : ¬ (cmp G (tbF k) = true ∧ popN k 12 < smF G lim k)) : smF G lim (k + 1) = smF G lim k ∧ smB G lim (k + 1) = smB G lim k := ⟨if_neg h, if_neg h⟩
theorem sm_le (G : GS) (lim : Nat) (hl : 12 ≤ lim) : ∀ k, smF G lim k ≤ lim
  | 0 => Nat.le_refl _
  | k + 1 => by
    have h1 := sm_le G lim hl k
    have h2 := pop_le k 12
    by_cases h : cmp G (tbF k) = true ∧ popN k 12 < smF G lim k
    · rw [(sm_t h).1]; omega
    · rw [(sm_f h).1]; exact h1
theorem sm_same {G : GS} {l1 l2 : Nat} : ∀ k, (∀ i, i < k → popN i 12 < l1 ∧ popN i 12 < l2) → smB G l1 k = smB G l2 k ∧ (smF G l1 k = smF G l2 k ∨ (smF G l1 k = l1 ∧ smF G l2 k = l2))
  | 0, _ => ⟨rfl, Or.inr ⟨rfl, rfl⟩⟩
  | k + 1, h => by
    obtain ⟨h1, h2⟩ := sm_same k (fun i hi => h i (by omega))
    have hp := h k (by omega)
    by_cases hc : cmp G (tbF k) = true
    · rcases h2 with h2 | ⟨h2, h3⟩
      · by_cases q : popN k 12 < smF G l1 k
        · have a := sm_t (G := G) (lim := l1) ⟨hc, q⟩
          have b := sm_t (G := G) (lim := l2) ⟨hc, h2 ▸ q⟩
          exact ⟨a.2.trans b.2.symm, Or.inl (a.1.trans b.1.symm)⟩
        · have a := sm_f (G := G) (lim := l1) (fun z => q z.2)
          have b := sm_f (G := G) (lim := l2) (fun z => q (h2 ▸ z.2))
          exact ⟨(a.2.trans h1).trans b.2.symm, Or.inl ((a.1.trans h2).trans b.1.symm)⟩
      · have a := sm_t (G := G) (lim := l1) ⟨hc, by rw [h2]; exact hp.1⟩
        have b := sm_t (G := G) (lim := l2) ⟨hc, by rw [h3]; exact hp.2⟩
        exact ⟨a.2.trans b.2.symm, Or.inl (a.1.trans b.1.symm)⟩
    · have a := sm_f (G := G) (lim := l1) (k := k) (fun z => hc z.1)
      have b := sm_f (G := G) (lim := l2) (k := k) (fun z => hc z.1)
      rw [a.1, a.2, b.1, b.2]
      exact ⟨h1, h2⟩
theorem sm_none {G : GS} {lim : Nat} : ∀ k, (∀ i, i < k → ¬ cmp G (tbF i) = true) → smB G lim k = -1
  | 0, _ => rfl
  | k + 1, h => by
    rw [(sm_f (fun z => h k (by omega) z.1)).2]
    exact sm_none k (fun i hi => h i (by omega))
theorem pop_hi {k c : Nat} (hk : k < 2 ^ c) : ∀ n, popN k (c + n) = popN k c
  | 0 => rfl
  | n + 1 => by
    show popN k (c + n) + k / 2 ^ (c + n) % 2 = _
    rw [pop_hi hk n, Nat.div_eq_of_lt (Nat.lt_of_lt_of_le hk (Nat.pow_le_pow_right (by decide) (by omega)))]; rfl
theorem pop_c {k c : Nat} (hc : c ≤ 12) (hk : k < 2 ^ c) : popN k 12 ≤ c := by
  have h := pop_hi hk (12 - c)
  rw [show c + (12 - c) = 12 by omega] at h
  rw [h]; exact pop_le k c
theorem pop_28 {k : Nat} (hk : k < 4096) : popN k 28 = popN k 12 := pop_hi (c := 12) hk 16
def sp_sm (G : GS) : Int32 := if 12 < G 4 0 then -15 else smB G 28 (2 ^ (G 4 0))
theorem sm_cls {G : GS} (hc : G 4 0 ≤ 12) : smB G (G 4 0 + 1) (2 ^ (G 4 0)) = smB G 28 (2 ^ (G 4 0)) := (sm_same _ (fun i hi => by have := pop_c hc hi; omega)).1
theorem sm_inc {G : GS} (hG : ok G) (hc : ¬ cmp G allT = true) (lim k : Nat) : smB G lim k = -1 := sm_none k (fun i _ q => hc (cmp_mono hG (fun _ _ _ => rfl) q))
theorem pow_12 {c : Nat} (h : c ≤ 12) : 1 * 2 ^ c ≤ 4096 := by rw [Nat.one_mul]; exact Nat.pow_le_pow_right (n := 2) (i := c) (j := 12) (by decide) h
-- the reference's rows
theorem un_stp {G : GS} {c v : Nat} {K : Nat → Nat} (hab : G 6 c ≠ G 7 c) (hv : v = if G 8 c = 0 then K (G 6 c) ||| K (G 7 c) else K (G 6 c)) : un (un K (G 7 c) (K (G 6 c) ||| K (G 7 c))) (G 6 c) v = stp G c K := by
  funext p
  unfold un stp
  by_cases e : p = G 7 c
  · rw [if_neg (show ¬ p = G 6 c from fun q => hab (q.symm.trans e)), if_pos e, if_pos e]
  · rw [if_neg e, if_neg e]
    by_cases e2 : p = G 6 c
    · rw [if_pos e2, hv]
      by_cases w : G 8 c = 0
      · rw [if_pos w, if_pos ⟨e2, w⟩]
      · rw [if_neg w, if_neg (fun q => w q.2), e2]
    · rw [if_neg e2, if_neg (fun q => e2 q.1)]
theorem kb_end {K K1 : Nat → Nat} {i : Nat} (h : ∀ p, K1 p = if p < i then 2 ^ p else K p) (hi : i = 8) : K1 = kb K := by
  subst hi; funext p; rw [h p]; rfl
theorem kb_s {K K1 : Nat → Nat} {i : Nat} (h : ∀ p, K1 p = if p < i then 2 ^ p else K p) : ∀ p, un K1 i (1 * 2 ^ i) p = if p < i + 1 then 2 ^ p else K p := by
  intro p
  unfold un
  by_cases e : p = i
  · subst e; rw [if_pos rfl, if_pos (by omega), Nat.one_mul]
  · rw [if_neg e, h p]
    by_cases q : p < i
    · rw [if_pos q, if_pos (by omega)]
    · rw [if_neg q, if_neg (by omega)]
theorem all_f1 {f : Nat → Bool} {i z : Nat} (h : z = bN (allB f i = true)) (hz : z = 0) : 0 = bN (allB f (i + 1) = true) := by
  refine (bN_f ?_).symm
  show ¬ (allB f i && f i) = true
  rw [Bool.and_eq_true]
  rintro ⟨q, _⟩
  rw [bN_t q] at h; omega
theorem all_f2 {f : Nat → Bool} {i : Nat} (hf : ¬ f i = true) : 0 = bN (allB f (i + 1) = true) := by
  refine (bN_f ?_).symm
  show ¬ (allB f i && f i) = true
  rw [Bool.and_eq_true]
  exact fun q => hf q.2
theorem all_t {f : Nat → Bool} {i z : Nat} (h : z = bN (allB f i = true)) (hz : ¬ z = 0) (hf : f i = true) : 1 = bN (allB f (i + 1) = true) := by
  by_cases q : allB f i = true
  · refine (bN_t ?_).symm
    show (allB f i && f i) = true
    rw [q, hf]; rfl
  · exact absurd (h.trans (bN_f q)) hz
theorem andnot {A B : Nat} (h : ∀ i, B.testBit i = true → A.testBit i = true) : nI A &&& (nI B ^^^ (-1)) = nI (A ^^^ B) := by
  apply Int32.toBitVec_inj.1
  show BitVec.ofNat 32 A &&& (BitVec.ofNat 32 B ^^^ BitVec.allOnes 32) = BitVec.ofNat 32 (A ^^^ B)
  apply BitVec.eq_of_getLsbD_eq
  intro i hi
  have h1 := h i
  simp only [BitVec.getLsbD_and, BitVec.getLsbD_xor, BitVec.getLsbD_ofNat, BitVec.getLsbD_allOnes, hi, decide_true, Bool.true_and, Nat.testBit_xor]
  cases ha : A.testBit i <;> cases hb : B.testBit i <;> simp_all
theorem but_set {C j : Nat} (hj : j < C) : ∀ i, (1 * 2 ^ j).testBit i = true → (1 * 2 ^ C - 1).testBit i = true := by
  intro i h
  rw [Nat.one_mul, Nat.testBit_two_pow, decide_eq_true_eq] at h
  subst h
  rw [Nat.one_mul, Nat.testBit_two_pow_sub_one, decide_eq_true hj]
theorem but_tb {C j i : Nat} (hi : i < C) : tbF ((1 * 2 ^ C - 1) ^^^ 1 * 2 ^ j) i = butF j i := by
  unfold tbF butF
  rw [Nat.one_mul, Nat.one_mul, Nat.testBit_xor, Nat.testBit_two_pow_sub_one, Nat.testBit_two_pow, decide_eq_true hi]
  by_cases e : j = i
  · subst e; simp
  · rw [decide_eq_false e, decide_eq_true (show i ≠ j from fun q => e q.symm)]; rfl
theorem but_lt {C j : Nat} (hC : C ≤ 28) (hj : j < C) : (1 * 2 ^ C - 1) ^^^ 1 * 2 ^ j < 2 ^ 28 := by
  rw [Nat.one_mul, Nat.one_mul]
  have h1 : 2 ^ C ≤ 2 ^ 28 := Nat.pow_le_pow_right (by decide) hC
  have h2 : 2 ^ j < 2 ^ 28 := Nat.pow_lt_pow_right (by decide) (by omega)
  have h3 := Nat.two_pow_pos C
  exact Nat.xor_lt_two_pow (by omega) h2
theorem cmp_cong {G : GS} {f g : Nat → Bool} (h : ∀ i, i < G 4 0 → f i = g i) : cmp G f = cmp G g := by
  show full _ (krS G f k0 (G 4 0)) = full _ (krS G g k0 (G 4 0))
  rw [kr_cong (G 4 0) h]
theorem full_b {G : GS} (hG : ok G) (f : Nat → Bool) (K : Nat → Nat) : full (G 0 0) (krS G f (kb K) (G 4 0)) = cmp G f := full_on (fun p hp => krb hG f K p (by have := hG.2.1; omega))
theorem lrn_on {G : GS} (hG : ok G) (K : Nat → Nat) {i : Nat} (hi : i < G 4 0) : lrn G i (krS G allT (kb K) i) ↔ lrn G i (kr G allT i) := by
  have h := kr_on (ok_in8 hG) (f := allT) (kb_k0 K) i (by omega)
  have ha := ok_in8 hG i hi
  unfold lrn
  rw [h _ ha.1, h _ ha.2]
