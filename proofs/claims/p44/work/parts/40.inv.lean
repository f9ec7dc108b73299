/-! what holds of a house between calls: numbers, places, things in order -/
section PUA
theorem isB_1 {i n : Nat} (h : i < n) (hn : n < 2 ^ 31) : isB (nI i) (nI n) = 1 := by
  unfold isB
  rw [if_neg (nI_pos (by omega)), if_neg (nI_ge h hn)]
theorem isB_h {i n : Nat} (h : n ≤ i) (hi : i < 2 ^ 31) : isB (nI i) (nI n) = 0 := by
  unfold isB
  rw [if_neg (nI_pos hi), if_pos (nI_le h hi)]
theorem isB_ex {i : Int32} {n : Nat} (hn : n < 2 ^ 31) (h : ¬ isB i (nI n) = 0) : ∃ j, j < n ∧ i = nI j := by
  obtain ⟨h1, h2⟩ := isB_n.mp h
  rcases pk_ix i hn with h | h | ⟨j, hj, e⟩
  · exact absurd h h1
  · exact absurd h h2
  · exact ⟨j, hj, e⟩
theorem isB_1n {i n : Nat} (h : i < n) (hn : n < 2 ^ 31) : ¬ isB (nI i) (nI n) = 0 := by
  rw [isB_1 h hn]; decide
theorem isB_1L {b : Int32} {i n : Nat} (hb : b = nI n) (h : i < n) (hn : n < 2 ^ 31) : ¬ isB (nI i) b = 0 := by
  rw [hb]; exact isB_1n h hn
theorem isB_b (i b : Int32) : vp_nar .boolean (isB i b) = isB i b := by
  unfold isB
  by_cases h1 : i < 0
  · simp only [h1, if_true]; rfl
  · by_cases h2 : b ≤ i
    · simp only [h1, h2, if_true, if_false]; rfl
    · simp only [h1, h2, if_false]; rfl
theorem pA_1 {f : Nat → Int64} {i n : Nat} (h : i < n) (hn : n < 2 ^ 31) : pA f (nI n) (nI i) = f i := by
  unfold pA
  rw [if_neg (isB_1n h hn), nI_clamp (by omega)]
theorem pA_h {f : Nat → Int64} {i b : Int32} (h : isB i b = 0) : pA f b i = 502511173632 := if_pos h
theorem pU_1 {f : Nat → Int64} {i n : Nat} {v : Int64} (h : i < n) (hn : n < 2 ^ 31) : pU f (nI n) (nI i) v = vp_updL f i v := by
  unfold pU
  rw [if_neg (isB_1n h hn), nI_clamp (by omega)]
theorem pU_in {f : Nat → Int64} {b i : Int32} {v : Int64} {P : Int64 → Prop} (hv : P v) (hf : ∀ k, P (f k)) : ∀ k, P (pU f b i v k) := by
  intro k
  unfold pU
  by_cases h : isB i b = 0
  · rw [if_pos h]; exact hf k
  · rw [if_neg h]
    unfold vp_updL
    by_cases h2 : k = i.toNatClampNeg
    · rw [if_pos h2]; exact hv
    · rw [if_neg h2]; exact hf k
/-- the same, up to a bound -/
theorem pU_lt {f : Nat → Int64} {b i : Int32} {v : Int64} {P : Int64 → Prop} {n : Nat} (hv : P v) (hf : ∀ k, k < n → P (f k)) : ∀ k, k < n → P (pU f b i v k) := by
  intro k hk
  unfold pU
  by_cases h : isB i b = 0
  · rw [if_pos h]; exact hf k hk
  · rw [if_neg h]
    unfold vp_updL
    by_cases h2 : k = i.toNatClampNeg
    · rw [if_pos h2]; exact hv
    · rw [if_neg h2]; exact hf k hk
theorem pA_in {f : Nat → Int64} {n : Nat} {i : Int32} {P : Int64 → Prop} (hn : n < 2 ^ 31) (h0 : P 502511173632) (hf : ∀ k, k < n → P (f k)) : P (pA f (nI n) i) := by
  unfold pA
  by_cases h : isB i (nI n) = 0
  · rw [if_pos h]; exact h0
  · rw [if_neg h]
    obtain ⟨j, hj, e⟩ := isB_ex hn h
    rw [e, nI_clamp (by omega)]
    exact hf j hj
/-- what comes out of 60, 12 -/
theorem fF_1 {k : Nat} (h : k < 12) : fF k = some ⟨k, h⟩ := dif_pos h
theorem frameAt_1 {S : Ho} {k : Nat} (h : k < 12) : sX8_frameAt S (nI k) = some ⟨k, h⟩ := by
  unfold sX8_frameAt
  rw [if_neg (isB_1L (b := 12) (n := 12) rfl h (by decide)), nI_clamp (by omega), fF_1 h]
theorem frameAt_h {S : Ho} {i : Int32} (h : isB i 12 = 0) : sX8_frameAt S i = none := if_pos h
theorem toI {x : Int32} {n : Nat} (hn : n < 2 ^ 31) (h : x.toInt = n) : x = nI n := Int32.toInt_inj.mp (by rw [h, nI_toInt hn])
theorem nI_inj {a b : Nat} (ha : a < 2 ^ 31) (hb : b < 2 ^ 31) (h : nI a = nI b) : a = b := (nI_eq ha hb).mp h
end PUA
section VAL
theorem kf_nat {v : Int64} {c m : Nat} (hc : c < 65536) (hm : m < 2 ^ 32) (hv : v.toBitVec.toNat = c * 2 ^ 32 + m) : kf v = nI c := by
  unfold kf
  rw [pk_char, show ((32 : Int32).toInt64.toUInt64 &&& Int64.toUInt64 63) = 32 by decide]
  have e2 : (v.toUInt64 >>> 32).toBitVec.toNat = c := by
    show (v.toUInt64 >>> 32).toNat = c
    rw [UInt64.toNat_shiftRight]
    show v.toBitVec.toNat >>> 32 = c
    rw [hv, Nat.shiftRight_eq_div_pow]; omega
  have e3 : ((v.toUInt64 >>> 32).toInt64.toInt32).toBitVec = (v.toUInt64 >>> 32).toBitVec.signExtend 32 := rfl
  rw [e3, BitVec.signExtend_eq_setWidth_of_le _ (by decide), BitVec.toNat_setWidth, e2]
  congr 1; omega
theorem nf_nat {v : Int64} {c : Nat} {n : Int32} (hv : v.toBitVec.toNat = c * 2 ^ 32 + n.toBitVec.toNat) : nf v = n := by
  unfold nf
  refine Int32.toBitVec_inj.mp (BitVec.eq_of_toNat_eq ?_)
  show (v.toBitVec.signExtend 32).toNat = _
  rw [BitVec.signExtend_eq_setWidth_of_le _ (by decide), BitVec.toNat_setWidth, hv]
  have := n.toBitVec.isLt
  omega
theorem or_nat {c : Nat} (hc : c < 65536) (n : Int32) : ((BitVec.ofNat 64 (c * 2 ^ 32)) ||| (n.toBitVec.signExtend 64 &&& 4294967295#64)).toNat = c * 2 ^ 32 + n.toBitVec.toNat := by
  have hn := n.toBitVec.isLt
  have e1 : (n.toBitVec.signExtend 64 &&& 4294967295#64).toNat = n.toBitVec.toNat := by
    rw [BitVec.toNat_and, show (4294967295#64).toNat = 2 ^ 32 - 1 by decide, Nat.and_two_pow_sub_one_eq_mod, BitVec.toNat_signExtend, BitVec.toNat_setWidth]
    split <;> omega
  rw [BitVec.toNat_or, e1, BitVec.toNat_ofNat, Nat.mod_eq_of_lt (by omega), ← Nat.shiftLeft_eq, ← Nat.shiftLeft_add_eq_or_of_lt hn, Nat.shiftLeft_eq]
theorem bb_n (n : Int32) : kf (472446402560 ||| (n.toInt64 &&& 4294967295)) = 110 ∧ nf (472446402560 ||| (n.toInt64 &&& 4294967295)) = n := by
  have h : (472446402560 ||| (n.toInt64 &&& 4294967295) : Int64).toBitVec.toNat = 110 * 2 ^ 32 + n.toBitVec.toNat := or_nat (c := 110) (by decide) n
  exact ⟨kf_nat (c := 110) (by decide) n.toBitVec.isLt h, nf_nat h⟩
theorem bb_o (n : Int32) : kf (476741369856 ||| (n.toInt64 &&& 4294967295)) = 111 ∧ nf (476741369856 ||| (n.toInt64 &&& 4294967295)) = n := by
  have h : (476741369856 ||| (n.toInt64 &&& 4294967295) : Int64).toBitVec.toNat = 111 * 2 ^ 32 + n.toBitVec.toNat := or_nat (c := 111) (by decide) n
  exact ⟨kf_nat (c := 111) (by decide) n.toBitVec.isLt h, nf_nat h⟩
theorem isT_n (Z : Ho) (n : Int32) : isT (sX8_ofNumber Z n) = 0 := by
  unfold isT sX8_ofNumber
  rw [(bb_n n).1]; decide
theorem isT_o (Z : Ho) (n : Int32) : ¬ isT (sX8_ofThing Z n) = 0 := by
  unfold isT sX8_ofThing
  rw [(bb_o n).1]; decide
theorem nf_o (Z : Ho) (n : Int32) : nf (sX8_ofThing Z n) = n := (bb_o n).2
theorem isT_u : isT 502511173632 = 0 := by decide +kernel
/-- a value's kind is o just where it is a thing -/
theorem isT_k {v : Int64} : ¬ isT v = 0 ↔ kf v = 111 := by
  unfold isT
  by_cases h : kf v = 111
  · simp [h]
  · simp [h]
end VAL
section THI
def pT (al : Nat → Option (Fin 60)) (j : Nat) : Fin 60 := (al j).getD ⟨0, by decide⟩
def nT (al : Nat → Option (Fin 60)) (th : Fin 60 → Th) (j : Nat) : Int32 := (th (pT al j)).n
/-- there is a thing of that number -/
def Dm (al : Nat → Option (Fin 60)) (th : Fin 60 → Th) (t : Nat) (n : Int32) : Prop := ∃ j, j < t ∧ nT al th j = n
def okV (D : Int32 → Prop) (v : Int64) : Prop := isT v = 0 ∨ D (nf v)
theorem okV_u {D : Int32 → Prop} : okV D 502511173632 := Or.inl isT_u
theorem okV_n {D : Int32 → Prop} {Z : Ho} {n : Int32} : okV D (sX8_ofNumber Z n) := Or.inl (isT_n Z n)
theorem okV_m {D E : Int32 → Prop} {v : Int64} (h : ∀ n, D n → E n) (q : okV D v) : okV E v := q.imp id (h _)
/-- the things stand in order: the numbers go up -/
def TB (al : Nat → Option (Fin 60)) (th : Fin 60 → Th) (tc : Int32) (t md : Nat) : Prop :=
  (tc = nI t ∧ t ≤ 60) ∧ (∀ j, j < 60 → al j = some (pT al j)) ∧ (∀ i j, i < 60 → j < 60 → pT al i = pT al j → i = j) ∧
  (∀ i j, i < j → j < t → (nT al th i).toInt < (nT al th j).toInt) ∧ (∀ j, j < t → 0 ≤ (nT al th j).toInt ∧ (nT al th j).toInt < md) ∧ (∀ j, j < t → ∃ z, z ≤ 8 ∧ (th (pT al j)).z = nI z)
section TBX
variable {al : Nat → Option (Fin 60)} {th : Fin 60 → Th} {tc : Int32} {t9 md : Nat}
theorem TB.t (h : TB al th tc t9 md) : tc = nI t9 := h.1.1
theorem TB.l (h : TB al th tc t9 md) : t9 ≤ 60 := h.1.2
theorem TB.a (h : TB al th tc t9 md) {j : Nat} (q : j < 60) : al j = some (pT al j) := h.2.1 j q
theorem TB.i (h : TB al th tc t9 md) {i j : Nat} (p : i < 60) (q : j < 60) (e : pT al i = pT al j) : i = j := h.2.2.1 i j p q e
theorem TB.s (h : TB al th tc t9 md) {i j : Nat} (p : i < j) (q : j < t9) : (nT al th i).toInt < (nT al th j).toInt := h.2.2.2.1 i j p q
theorem TB.b (h : TB al th tc t9 md) {j : Nat} (q : j < t9) : 0 ≤ (nT al th j).toInt ∧ (nT al th j).toInt < md := h.2.2.2.2.1 j q
theorem TB.z (h : TB al th tc t9 md) {j : Nat} (q : j < t9) : ∃ z, z ≤ 8 ∧ (th (pT al j)).z = nI z := h.2.2.2.2.2 j q
end TBX
variable {al : Nat → Option (Fin 60)} {th : Fin 60 → Th} {tc : Int32} {t md : Nat} {S : Ho}
/-- a number is had once -/
theorem TB.n (h : TB al th tc t md) {i j : Nat} (p : i < t) (q : j < t) (e : nT al th i = nT al th j) : i = j := by
  rcases Nat.lt_trichotomy i j with c | c | c
  · have := h.s c q; rw [e] at this; omega
  · exact c
  · have := h.s c p; rw [e] at this; omega
theorem wn_loop {n0 : Int32} (h : TB S.al S.th S.tc t md) : ∀ (n x a b : Nat), 61 ≤ n + x → x + b ≤ 60 + a → b ≤ t → a ≤ 60 → x ≤ 60 → (∀ j, j < t → nT S.al S.th j = n0 → a ≤ j ∧ j < b) →
    (∃ j, j < t ∧ nT S.al S.th j = n0 ∧ LX5_withNumber_12 n0 n (nI x) (nI a) (nI b - 1) S = some (pT S.al j)) ∨ (LX5_withNumber_12 n0 n (nI x) (nI a) (nI b - 1) S = none ∧ ∀ j, j < t → ¬ nT S.al S.th j = n0) := by
  intro n
  induction n with
  | zero => intro x a b h1 h2 h3 h4 h5; exact absurd h1 (by omega)
  | succ n ih =>
    intro x a b h1 h2 h3 h4 h5 hc
    have ht := h.l
    rw [LX5_withNumber_12_u]
    by_cases hx : x = 60
    · subst hx
      refine Or.inr ⟨if_pos (show (60 : Int32) ≤ nI 60 by decide), fun j hj e => ?_⟩
      have := hc j hj e
      omega
    rw [if_neg (show ¬ (60 : Int32) ≤ nI x from nI_ge (show x < 60 by omega) (by decide))]
    have e1 : (nI b - 1).toInt = (b : Int) - 1 := pk_sub_toInt (b := 1) (by omega) (by omega)
    by_cases hab : b ≤ a
    · refine Or.inr ⟨if_pos ?_, fun j hj e => ?_⟩
      · rw [Int32.lt_iff_toInt_lt, e1, nI_toInt (by omega)]; omega
      · have := hc j hj e
        omega
    have hab : a < b := by omega
    rw [if_neg (by rw [Int32.lt_iff_toInt_lt, e1, nI_toInt (by omega)]; omega)]
    have e2 : nI b - 1 = nI (b - 1) := pk_sub (b := 1) (by omega)
    have e3 : (nI a + (nI b - 1)) / 2 = nI ((a + (b - 1)) / 2) := by
      rw [e2, nI_add]
      exact pk_div (d := 2) (by omega) (by omega) (by decide)
    rw [e3]
    generalize hm : (a + (b - 1)) / 2 = m
    have hm1 : a ≤ m ∧ m < b := by omega
    rw [if_neg (isB_1L (b := 60) (n := 60) rfl (by omega) (by decide)), nI_clamp (by omega), oc_s (h.a (by omega))]
    by_cases c1 : (S.th (pT S.al m)).n = n0
    · rw [if_pos c1]
      exact Or.inl ⟨m, by omega, c1, rfl⟩
    rw [if_neg c1]
    by_cases c2 : n0 ≤ (S.th (pT S.al m)).n
    · rw [if_pos c2]
      rw [nI_1]
      refine ih (x + 1) a m (by omega) (by omega) (by omega) h4 (by omega) (fun j hj e => ?_)
      have := hc j hj e
      refine ⟨this.1, ?_⟩
      rcases Nat.lt_trichotomy j m with c | c | c
      · exact c
      · subst c; exact absurd e c1
      · have h6 := h.s c hj
        rw [Int32.le_iff_toInt_le] at c2
        rw [e] at h6
        have h7 : (nT S.al S.th m).toInt = ((S.th (pT S.al m)).n).toInt := rfl
        omega
    · rw [if_neg c2]
      rw [nI_1, nI_1]
      refine ih (x + 1) (m + 1) b (by omega) (by omega) h3 (by omega) (by omega) (fun j hj e => ?_)
      have := hc j hj e
      refine ⟨?_, this.2⟩
      rcases Nat.lt_trichotomy j m with c | c | c
      · have h6 := h.s c (by omega)
        rw [Int32.le_iff_toInt_le] at c2
        rw [e] at h6
        have h7 : (nT S.al S.th m).toInt = ((S.th (pT S.al m)).n).toInt := rfl
        omega
      · subst c; exact absurd e c1
      · exact c
theorem wn_e {n0 : Int32} (h : TB S.al S.th S.tc t md) : (∃ j, j < t ∧ nT S.al S.th j = n0 ∧ sX5_withNumber S n0 = some (pT S.al j)) ∨ (sX5_withNumber S n0 = none ∧ ∀ j, j < t → ¬ nT S.al S.th j = n0) := by
  unfold sX5_withNumber
  rw [h.t]
  exact wn_loop h 61 0 0 t (by omega) (by have := h.l; omega) (Nat.le_refl _) (by omega) (by omega) (fun j hj _ => ⟨Nat.zero_le _, hj⟩)
theorem wn_1 (h : TB S.al S.th S.tc t md) {j : Nat} (hj : j < t) : sX5_withNumber S (nT S.al S.th j) = some (pT S.al j) := by
  rcases wn_e (n0 := nT S.al S.th j) h with ⟨i, hi, e, q⟩ | ⟨_, q⟩
  · rw [h.n hi hj e] at q; exact q
  · exact absurd rfl (q j hj)
/-- the thing of a value: there is one just where its number is had -/
theorem ov_e {v : Int64} (h : TB S.al S.th S.tc t md) : (∃ j, j < t ∧ ¬ isT v = 0 ∧ nT S.al S.th j = nf v ∧ sX5_ofValue S v = some (pT S.al j)) ∨ (sX5_ofValue S v = none ∧ (isT v = 0 ∨ ∀ j, j < t → ¬ nT S.al S.th j = nf v)) := by
  unfold sX5_ofValue
  by_cases c : isT v = 0
  · exact Or.inr ⟨if_pos c, Or.inl c⟩
  · rw [if_neg c]
    rcases wn_e (n0 := nf v) h with ⟨j, hj, e, q⟩ | ⟨q, r⟩
    · exact Or.inl ⟨j, hj, c, e, q⟩
    · exact Or.inr ⟨q, Or.inr r⟩
theorem has_1 {v : Int64} (h : TB S.al S.th S.tc t md) (hv : okV (Dm S.al S.th t) v) : ¬ sX5_has S v = 0 := by
  unfold sX5_has
  by_cases c : isT v = 0
  · rw [if_pos c]; decide
  · rw [if_neg c]
    rcases hv with q | ⟨j, hj, e⟩
    · exact absurd q c
    unfold sX5_ofValue
    rw [if_neg c, ← e, oc_s (wn_1 h hj)]; decide
/-- a thing more -/
def enV (S : Ho) (t : Nat) (c z : Int32) : Th := (((((S.th (pT S.al t)).sn S.mk).sc c).sz z).sr 0).sp (fillJ (S.th (pT S.al t)).p 502511173632 8)
def enS (S : Ho) (t : Nat) (c z : Int32) : Ho := ((S.thS (pT S.al t) (enV S t c z)).stc (nI (t + 1))).smk (S.mk + 1)
theorem en_e {c z : Int32} (h : TB S.al S.th S.tc t md) (ht : t < 60) : sX5_enlist S c z = (S.mk, enS S t c z) := by
  unfold sX5_enlist
  rw [h.t, if_neg (isB_1L (b := 60) (n := 60) rfl ht (by decide)), nI_clamp (by omega), oc_s (h.a ht)]
  show (S.mk, (((S.thS (pT S.al t) (enV S t c z))).stc (S.tc + 1)).smk (S.mk + 1)) = _
  rw [h.t, nI_1]
  rfl
theorem en_n {c z : Int32} {j : Nat} (h : TB S.al S.th S.tc t md) (ht : t < 60) (hj : j < t) : (enS S t c z).th (pT S.al j) = S.th (pT S.al j) :=
  updF_o (fun e => by have := h.i (by omega) ht e; omega)
theorem en_t {c z : Int32} : (enS S t c z).th (pT S.al t) = enV S t c z := updF_s
theorem en_TB {c : Int32} {z : Nat} (h : TB S.al S.th S.tc t md) (ht : t < 60) (hm : S.mk = nI md) (hmd : md < 2 ^ 30) (hz : z ≤ 8) : TB (enS S t c (nI z)).al (enS S t c (nI z)).th (enS S t c (nI z)).tc (t + 1) (md + 1) := by
  have eo : ∀ j, j < t → nT S.al (enS S t c (nI z)).th j = nT S.al S.th j := fun j hj => by
    unfold nT; rw [en_n h ht hj]
  have et : nT S.al (enS S t c (nI z)).th t = nI md := by
    unfold nT; rw [en_t]; exact hm
  refine ⟨⟨rfl, by omega⟩, h.2.1, h.2.2.1, fun i j hij hj => ?_, fun j hj => ?_, fun j hj => ?_⟩
  · show (nT S.al (enS S t c (nI z)).th i).toInt < (nT S.al (enS S t c (nI z)).th j).toInt
    rcases Nat.lt_or_ge j t with q | q
    · rw [eo i (by omega), eo j q]; exact h.s hij q
    · obtain rfl : j = t := by omega
      rw [et, eo i hij, nI_toInt (by omega)]
      exact (h.b hij).2
  · show 0 ≤ (nT S.al (enS S t c (nI z)).th j).toInt ∧ (nT S.al (enS S t c (nI z)).th j).toInt < ((md + 1 : Nat) : Int)
    rcases Nat.lt_or_ge j t with q | q
    · rw [eo j q]; have := h.b q; omega
    · obtain rfl : j = t := by omega
      rw [et, nI_toInt (by omega)]; omega
  · show ∃ z9, z9 ≤ 8 ∧ ((enS S t c (nI z)).th (pT S.al j)).z = nI z9
    rcases Nat.lt_or_ge j t with q | q
    · rw [en_n h ht q]; exact h.z q
    · obtain rfl : j = t := by omega
      rw [en_t]; exact ⟨z, hz, rfl⟩
theorem en_D {c z : Int32} (h : TB S.al S.th S.tc t md) (ht : t < 60) : ∀ n, Dm S.al S.th t n → Dm (enS S t c z).al (enS S t c z).th (t + 1) n := by
  intro n ⟨j, hj, e⟩
  refine ⟨j, by omega, ?_⟩
  show nT S.al (enS S t c z).th j = n
  unfold nT; rw [en_n h ht hj]; exact e
theorem en_N {c z : Int32} : Dm (enS S t c z).al (enS S t c z).th (t + 1) S.mk := ⟨t, Nat.lt_succ_self t, by
  show nT S.al (enS S t c z).th t = S.mk
  unfold nT; rw [en_t]; rfl⟩
/-- the fields lead to things that are there -/
def TF (al : Nat → Option (Fin 60)) (th : Fin 60 → Th) (t : Nat) : Prop := ∀ j, j < t → ∀ z k, (th (pT al j)).z = nI z → z ≤ 8 → k < z → okV (Dm al th t) ((th (pT al j)).p k)
theorem en_TF {c z : Int32} (h : TB S.al S.th S.tc t md) (ht : t < 60) (hf : TF S.al S.th t) : TF (enS S t c z).al (enS S t c z).th (t + 1) := by
  intro j hj z9 k ez hz hk
  have ez : ((enS S t c z).th (pT S.al j)).z = nI z9 := ez
  show okV _ (((enS S t c z).th (pT S.al j)).p k)
  rcases Nat.lt_or_ge j t with q | q
  · rw [en_n h ht q] at ez ⊢
    exact okV_m (en_D h ht) (hf j q z9 k ez hz hk)
  · obtain rfl : j = t := by omega
    rw [en_t]
    show okV _ (fillJ (S.th (pT S.al j)).p 502511173632 8 k)
    unfold fillJ
    rw [if_pos (by omega)]
    exact okV_u
end THI
