/-! a method that is told well stands well -/
section TEL
variable {S : Ho} {R R' R2 : Ro} {q a t r d e x kk : Nat}
def ctR (R : Ro) (i0 j0 : Int32) : Int32 × Ro := if isB i0 R.n = 0 then ((0, R)) else (if isB i0 24 = 0 then ((0, R)) else (if j0 ≤ 8 then (if R.d (Int32.toNatClampNeg i0) = (-1) then (if isB R.k 24 = 0 then ((1, R.sd (upd R.d (Int32.toNatClampNeg i0) j0))) else ((1, (((R.sd (upd R.d (Int32.toNatClampNeg i0) j0)).sq (upd R.q (Int32.toNatClampNeg R.k) i0)).sk (R.k + 1))))) else (if R.d (Int32.toNatClampNeg i0) = j0 then ((1, R)) else ((0, R)))) else ((0, R))))
theorem ct_e {i0 j0 : Int32} : sX3_comeTo (S.roS q R) q i0 j0 = ((ctR R i0 j0).1, S.roS q (ctR R i0 j0).2) := by
  unfold sX3_comeTo ctR
  rw [roS_s]
  by_cases c1 : isB i0 R.n = 0
  · rw [if_pos c1, if_pos c1]
  rw [if_neg c1, if_neg c1]
  by_cases c2 : isB i0 24 = 0
  · rw [if_pos c2, if_pos c2]
  rw [if_neg c2, if_neg c2]
  by_cases c3 : j0 ≤ 8
  · rw [if_pos c3, if_pos c3]
    by_cases c4 : R.d (Int32.toNatClampNeg i0) = (-1)
    · rw [if_pos c4, if_pos c4]
      by_cases c5 : isB R.k 24 = 0
      · rw [if_pos c5, if_pos c5, roS_2]
      · rw [if_neg c5, if_neg c5, roS_2]
    · rw [if_neg c4, if_neg c4]
      by_cases c5 : R.d (Int32.toNatClampNeg i0) = j0
      · rw [if_pos c5, if_pos c5]
      · rw [if_neg c5, if_neg c5]
  · rw [if_neg c3, if_neg c3]
/-- the rows that were come to: kk of them, the first x looked at -/
def Ext (R R' : Ro) : Prop := R'.l = R.l ∧ R'.f = R.f ∧ R'.g = R.g ∧ R'.n = R.n ∧ ∀ r d, d ≤ 8 → R.d r = nI d → R'.d r = nI d
def Prc (R : Ro) (a t r : Nat) : Prop := ∀ d, d ≤ 8 → R.d r = nI d → isL (ltR R r) ∧ Nam R a t r ∧ Led R r d
def BI (R : Ro) (a t x kk : Nat) : Prop := R.k = nI kk ∧ kk ≤ 24 ∧ ∃ e : Nat → Nat, (∀ j, j < kk → R.q j = nI (e j) ∧ e j < 24 ∧ isL (ltR R (e j)) ∧ ∃ d, d ≤ 8 ∧ R.d (e j) = nI d) ∧ (∀ i j, i < kk → j < kk → e i = e j → i = j) ∧
  (∀ r, r < 24 → (∀ j, j < kk → ¬ e j = r) → R.d r = -1) ∧ (∀ j, j < x → j < kk → Prc R a t (e j))
end TEL
section EXT
variable {R R' R2 : Ro} {a9 t9 r9 d9 e9 : Nat}
theorem Ext.r {R : Ro} : Ext R R := ⟨rfl, rfl, rfl, rfl, fun _ _ _ h => h⟩
theorem Ext.t (h : Ext R R') (g : Ext R' R2) : Ext R R2 := ⟨g.1.trans h.1, g.2.1.trans h.2.1, g.2.2.1.trans h.2.2.1, g.2.2.2.1.trans h.2.2.2.1, fun r9 d9 h8 q => g.2.2.2.2 r9 d9 h8 (h.2.2.2.2 r9 d9 h8 q)⟩
theorem Ext.lt (h : Ext R R') : ltR R' r9 = ltR R r9 := by unfold ltR; rw [h.1]
theorem Jmp.x {i : Int32} (h : Ext R R') (g : Jmp R i e9) : Jmp R' i e9 := by
  obtain ⟨j, h1, h2, h3, h4⟩ := g
  exact ⟨j, h1, h2, h.2.2.2.2 j e9 h4 h3, h4⟩
theorem Led.x (h : Ext R R') (g : Led R r9 d9) : Led R' r9 d9 := by
  obtain ⟨k, p, h1, h2, h3, h4, h5⟩ := g
  refine ⟨k, p, by rw [h.lt, h.2.2.1]; exact h1, h2, by rw [h.lt]; exact h3, h4, ?_⟩
  rw [h.lt, h.2.1]
  rcases h5 with z | ⟨z, y⟩ | ⟨z, y, w⟩ | ⟨z, y, w, u⟩
  · exact Or.inl z
  · exact Or.inr (Or.inl ⟨z, y.x h⟩)
  · exact Or.inr (Or.inr (Or.inl ⟨z, y.x h, w.x h⟩))
  · exact Or.inr (Or.inr (Or.inr ⟨z, y, w, u.x h⟩))
theorem Nam.x (h : Ext R R') (g : Nam R a9 t9 r9) : Nam R' a9 t9 r9 := by
  unfold Nam
  rw [h.lt, h.2.1, h.2.2.1]; exact g
theorem Prc.x (h : Ext R R') (h0 : d9 ≤ 8) (h1 : R.d r9 = nI d9) (g : Prc R a9 t9 r9) : Prc R' a9 t9 r9 := by
  intro d2 h8 e2
  have e3 := h.2.2.2.2 r9 d9 h0 h1
  have : d9 = d2 := nI_inj (by omega) (by omega) (e3.symm.trans e2)
  subst this
  obtain ⟨g1, g2, g3⟩ := g d9 h0 h1
  exact ⟨by rw [h.lt]; exact g1, g2.x h, g3.x h⟩
end EXT
section TEL
variable {S : Ho} {R R' R2 : Ro} {q a t r d e x kk : Nat}
theorem m1_ne {d : Nat} (h : d ≤ 8) : ¬ (nI d = -1) := by
  intro z
  have := congrArg Int32.toInt z
  rw [nI_toInt (by omega)] at this
  have e : (-1 : Int32).toInt = -1 := by decide
  rw [e] at this
  omega
/-- one step to a row -/
theorem ct_i {i0 j0 : Int32} (hT : TyI R) (h : BI R a t x kk) (h0 : 0 ≤ j0.toInt) (hx : x ≤ kk) : Ext R (ctR R i0 j0).2 ∧ (∃ kk', kk ≤ kk' ∧ (∀ j, j < kk → (ctR R i0 j0).2.q j = R.q j) ∧ BI (ctR R i0 j0).2 a t x kk') ∧ (¬ (ctR R i0 j0).1 = 0 → ∃ e, j0 = nI e ∧ Jmp (ctR R i0 j0).2 i0 e) := by
  obtain ⟨n0, hn0, en0, hty⟩ := hT
  have same : Ext R R ∧ (∃ kk', kk ≤ kk' ∧ (∀ j, j < kk → R.q j = R.q j) ∧ BI R a t x kk') := ⟨Ext.r, kk, Nat.le_refl _, fun _ _ => rfl, h⟩
  unfold ctR
  by_cases c1 : isB i0 R.n = 0
  · rw [if_pos c1]; exact ⟨same.1, same.2, fun z => absurd rfl z⟩
  rw [if_neg c1]
  by_cases c2 : isB i0 24 = 0
  · rw [if_pos c2]; exact ⟨same.1, same.2, fun z => absurd rfl z⟩
  rw [if_neg c2]
  by_cases c3 : j0 ≤ 8
  rotate_left
  · rw [if_neg c3]; exact ⟨same.1, same.2, fun z => absurd rfl z⟩
  rw [if_pos c3]
  rw [en0] at c1
  obtain ⟨r, hr, er⟩ := isB_ex (by omega) c1
  subst er
  have hr24 : r < 24 := by omega
  rw [nI_clamp (by omega)]
  obtain ⟨e, he8, ee⟩ : ∃ e : Nat, e ≤ 8 ∧ j0 = nI e := by
    rw [Int32.le_iff_toInt_le] at c3
    have e8 : (8 : Int32).toInt = 8 := by decide
    rw [e8] at c3
    exact ⟨j0.toInt.toNat, by omega, toI (by omega) (by omega)⟩
  subst ee
  obtain ⟨hk, hk24, E, hE, hinj, hno, hpr⟩ := h
  by_cases c4 : R.d r = -1
  · rw [if_pos c4]
    have hnew : ∀ j, j < kk → ¬ E j = r := fun j hj z => by
      obtain ⟨_, _, _, d, hd, ed⟩ := hE j hj
      rw [z, c4] at ed
      exact m1_ne hd ed.symm
    have hkk : kk < 24 := by
      have := inj_le 24 (kk + 1) (fun j => if j < kk then E j else r) (fun j hj => ?_) (fun i j hi hj e => ?_)
      · omega
      · show (if j < kk then E j else r) < 24
        by_cases q : j < kk
        · rw [if_pos q]; exact (hE j q).2.1
        · rw [if_neg q]; exact hr24
      · have e' : (if i < kk then E i else r) = (if j < kk then E j else r) := e
        by_cases qi : i < kk
        · by_cases qj : j < kk
          · rw [if_pos qi, if_pos qj] at e'; exact hinj i j qi qj e'
          · rw [if_pos qi, if_neg qj] at e'; exact absurd e' (hnew i qi)
        · by_cases qj : j < kk
          · rw [if_neg qi, if_pos qj] at e'; exact absurd e'.symm (hnew j qj)
          · omega
    rw [if_neg (by rw [hk]; exact isB_1L (b := 24) (n := 24) rfl hkk (by decide)), hk, nI_clamp (by omega), nI_1]
    have hx1 : Ext R (((R.sd (upd R.d r (nI e))).sq (upd R.q kk (nI r))).sk (nI (kk + 1))) := ⟨rfl, rfl, rfl, rfl, fun r1 d1 h8 e1 => by
      show upd R.d r (nI e) r1 = nI d1
      by_cases q : r1 = r
      · subst q; rw [c4] at e1; exact absurd e1.symm (m1_ne h8)
      · rw [pk_un q]; exact e1⟩
    refine ⟨hx1, ⟨kk + 1, by omega, fun j hj => pk_un (by omega), rfl, by omega, fun j => if j < kk then E j else r, fun j hj => ?_, fun i j hi hj e1 => ?_, fun r1 hr1 hn1 => ?_, fun j hj1 hj2 => ?_⟩, fun _ => ⟨e, rfl, r, hr24, rfl, ?_, he8⟩⟩
    · show upd R.q kk (nI r) j = nI (if j < kk then E j else r) ∧ (if j < kk then E j else r) < 24 ∧ isL (ltR R (if j < kk then E j else r)) ∧ ∃ d, d ≤ 8 ∧ upd R.d r (nI e) (if j < kk then E j else r) = nI d
      by_cases q : j < kk
      · rw [if_pos q, pk_un (by omega)]
        obtain ⟨g1, g2, g3, d, g4, g5⟩ := hE j q
        exact ⟨g1, g2, g3, d, g4, by rw [pk_un (hnew j q)]; exact g5⟩
      · obtain rfl : j = kk := by omega
        rw [if_neg q, pk_us]
        exact ⟨rfl, hr24, hty r hr, e, he8, pk_us⟩
    · have e' : (if i < kk then E i else r) = (if j < kk then E j else r) := e1
      by_cases qi : i < kk
      · by_cases qj : j < kk
        · rw [if_pos qi, if_pos qj] at e'; exact hinj i j qi qj e'
        · rw [if_pos qi, if_neg qj] at e'; exact absurd e' (hnew i qi)
      · by_cases qj : j < kk
        · rw [if_neg qi, if_pos qj] at e'; exact absurd e'.symm (hnew j qj)
        · omega
    · show upd R.d r (nI e) r1 = -1
      have h1 : ¬ r1 = r := fun z => by
        have this : ¬ (if kk < kk then E kk else r) = r1 := hn1 kk (by omega)
        rw [if_neg (Nat.lt_irrefl kk)] at this
        exact this z.symm
      rw [pk_un h1]
      exact hno r1 hr1 (fun j hj => by
        have this : ¬ (if j < kk then E j else r) = r1 := hn1 j (by omega)
        rw [if_pos hj] at this
        exact this)
    · have q : j < kk := by omega
      show Prc _ a t (if j < kk then E j else r)
      rw [if_pos q]
      obtain ⟨g1, g2, g3, d, g4, g5⟩ := hE j q
      exact (hpr j hj1 q).x hx1 g4 g5
    · show upd R.d r (nI e) r = nI e
      exact pk_us
  · rw [if_neg c4]
    by_cases c5 : R.d r = nI e
    · rw [if_pos c5]; exact ⟨same.1, same.2, fun _ => ⟨e, rfl, r, hr24, rfl, c5, he8⟩⟩
    · rw [if_neg c5]; exact ⟨same.1, same.2, fun z => absurd rfl z⟩
theorem tyI_x (h : TyI R) (g : Ext R R') : TyI R' := by
  obtain ⟨n, h1, h2, h3⟩ := h
  exact ⟨n, h1, by rw [g.2.2.2.1]; exact h2, fun r hr => by rw [g.lt]; exact h3 r hr⟩
theorem bo_0 {x : Int32} (h : ¬ vp_nar .boolean x = 0) : ¬ x = 0 := fun z => h (by rw [z]; rfl)
theorem lA_e (hr : r < 24) : sX3_letterAt (S.roS q R) q (nI r) = ltR R r := by
  unfold sX3_letterAt
  rw [if_neg (isB_1L (b := 24) (n := 24) rfl hr (by decide)), nI_clamp (by omega), roS_s]; rfl
theorem fA_e (hr : r < 24) : sX3_firstAt (S.roS q R) q (nI r) = R.f r := by
  unfold sX3_firstAt
  rw [if_neg (isB_1L (b := 24) (n := 24) rfl hr (by decide)), nI_clamp (by omega), roS_s]
theorem sA_e (hr : r < 24) : sX3_secondAt (S.roS q R) q (nI r) = R.g r := by
  unfold sX3_secondAt
  rw [if_neg (isB_1L (b := 24) (n := 24) rfl hr (by decide)), nI_clamp (by omega), roS_s]
theorem dA_e (hr : r < 24) : sX3_depthAt (S.roS q R) q (nI r) = R.d r := by
  unfold sX3_depthAt
  rw [if_neg (isB_1L (b := 24) (n := 24) rfl hr (by decide)), nI_clamp (by omega), roS_s]
theorem cA_e {j : Nat} (hr : j < 24) : sX3_comeToAt (S.roS q R) q (nI j) = R.q j := by
  unfold sX3_comeToAt
  rw [if_neg (isB_1L (b := 24) (n := 24) rfl hr (by decide)), nI_clamp (by omega), roS_s]
theorem nam_e {ec es : Int32} (hr : r < 24) (ha : a ≤ 2) (ht : t ≤ 4) (h : ¬ sX6_isNamingWhatIsThere (S.roS q R) ec es (nI a) (nI t) q (nI r) = 0) : Nam R a t r := by
  unfold sX6_isNamingWhatIsThere at h
  rw [lA_e hr, fA_e hr, sA_e hr] at h
  refine ⟨fun c => ?_, fun c => ?_, fun c => ?_⟩
  · rw [c, if_neg (by decide), if_neg (by decide), if_neg (by decide), if_neg (by decide), if_pos rfl, isB_b] at h
    exact isB_ex (by omega) h
  · have e1 : ¬ (ltR R r = 70 ∨ ltR R r = 102) := by rcases c with z | z <;> rw [z] <;> decide
    have e2 : ¬ (ltR R r = 71 ∨ ltR R r = 103) := by rcases c with z | z <;> rw [z] <;> decide
    have e3 : ¬ (ltR R r = 77 ∨ ltR R r = 109) := by rcases c with z | z <;> rw [z] <;> decide
    rw [if_neg e1, if_neg e2, if_neg e3, if_pos (Or.symm c), isB_b] at h
    exact isB_ex (by omega) h
  · have e1 : ¬ (ltR R r = 70 ∨ ltR R r = 102) := by rcases c with z | z <;> rw [z] <;> decide
    have e2 : ¬ (ltR R r = 71 ∨ ltR R r = 103) := by rcases c with z | z <;> rw [z] <;> decide
    rw [if_neg e1, if_neg e2, if_pos c] at h
    by_cases q1 : isB (R.f r) 16 = 0
    · rw [if_pos q1] at h; exact absurd rfl h
    rw [if_neg q1] at h
    by_cases q2 : isB (R.g r) 3 = 0
    · rw [if_pos q2] at h; exact absurd rfl h
    exact isB_ex (n := 3) (by decide) q2
theorem tk_n (hN : Nam R a t r) : ∃ k, k ≤ 3 ∧ tkI (ltR R r) (R.g r) = nI k := by
  unfold tkI
  split
  · exact ⟨2, by omega, rfl⟩
  split
  · next c =>
    obtain ⟨j, hj, e⟩ := hN.2.2 c
    exact ⟨j + 1, by omega, by rw [e, nI_1]⟩
  split
  · exact ⟨0, by omega, rfl⟩
  · exact ⟨1, by omega, rfl⟩
theorem pt_n (c : Int32) : ∃ p, p ≤ 2 ∧ ptI c = nI p := by
  unfold ptI
  split
  · exact ⟨0, by omega, rfl⟩
  split
  · exact ⟨2, by omega, rfl⟩
  · exact ⟨1, by omega, rfl⟩
/-- a row leads on -/
theorem lead_i (hT : TyI R) (h : BI R a t x kk) (hx : x ≤ kk) (hr : r < 24) (hd : d ≤ 8) (ed : R.d r = nI d) (hN : Nam R a t r) :
    ∃ res R', sX3_leadOnFrom (S.roS q R) q (nI r) = (res, S.roS q R') ∧ Ext R R' ∧ (∃ kk', kk ≤ kk' ∧ (∀ j, j < kk → R'.q j = R.q j) ∧ BI R' a t x kk') ∧ (¬ res = 0 → Led R' r d) := by
  obtain ⟨k, hk3, ek⟩ := tk_n hN
  obtain ⟨p, hp2, ep⟩ := pt_n (ltR R r)
  have same : Ext R R ∧ (∃ kk', kk ≤ kk' ∧ (∀ j, j < kk → R.q j = R.q j) ∧ BI R a t x kk') := ⟨Ext.r, kk, Nat.le_refl _, fun _ _ => rfl, h⟩
  unfold sX3_leadOnFrom
  rw [tkI_e, ptI_e, lA_e hr, sA_e hr, dA_e hr, fA_e hr, ed, ek, ep, nI_1]
  by_cases c0 : nI k ≤ nI d
  rotate_left
  · rw [if_neg c0]; exact ⟨0, R, rfl, same.1, same.2, fun z => absurd rfl z⟩
  rw [if_pos c0]
  have hkd := (nI_leI (by omega) (by omega)).mp c0
  have ee : nI d - nI k + nI p = nI (d - k + p) := by rw [pk_sub hkd, nI_add]
  rw [ee]
  have h0 : 0 ≤ (nI (d - k + p)).toInt := by rw [nI_toInt (by omega)]; omega
  have jx : ∀ {i0 : Int32} {R9 : Ro}, (∃ e, nI (d - k + p) = nI e ∧ Jmp R9 i0 e) → Jmp R9 i0 (d - k + p) := fun ⟨e, e1, e2⟩ => by
    have h8 : e ≤ 8 := by obtain ⟨_, _, _, _, z⟩ := e2; exact z
    have : d - k + p = e := nI_inj (by omega) (by omega) e1
    rw [this]; exact e2
  by_cases c1 : ltR R r = 106
  · rw [if_pos c1, ct_e]
    obtain ⟨g1, g2, g3⟩ := ct_i (i0 := R.f r) (j0 := nI (d - k + p)) hT h h0 hx
    refine ⟨_, _, rfl, g1, g2, fun z => ⟨k, p, by rw [g1.lt, g1.2.2.1]; exact ek, hkd, by rw [g1.lt]; exact ep, hp2, ?_⟩⟩
    rw [g1.lt, g1.2.1]
    exact Or.inr (Or.inl ⟨c1, jx (g3 (bo_0 z))⟩)
  rw [if_neg c1]
  by_cases c2 : ltR R r = 114
  · rw [if_pos c2]
    exact ⟨1, R, rfl, same.1, same.2, fun z => ⟨k, p, ek, hkd, ep, hp2, Or.inl c2⟩⟩
  rw [if_neg c2]
  by_cases c3 : ltR R r = 121
  · rw [if_pos c3, ct_e]
    obtain ⟨g1, ⟨kk1, hk1, gq, g2⟩, g3⟩ := ct_i (i0 := R.f r) (j0 := nI (d - k + p)) hT h h0 hx
    rw [pc_e rfl]
    by_cases c4 : (ctR R (R.f r) (nI (d - k + p))).1 = 0
    · refine ⟨0, _, if_pos c4, g1, ⟨kk1, hk1, gq, g2⟩, fun z => absurd rfl z⟩
    · rw [if_neg c4, ct_e, pc_e rfl]
      obtain ⟨y1, ⟨kk2, hk2, yq, y2⟩, y3⟩ := ct_i (i0 := nI (r + 1)) (j0 := nI (d - k + p)) (tyI_x hT g1) g2 h0 (by omega)
      have hx2 := g1.t y1
      by_cases c5 : (ctR (ctR R (R.f r) (nI (d - k + p))).2 (nI (r + 1)) (nI (d - k + p))).1 = 0
      · refine ⟨0, _, if_pos c5, hx2, ⟨kk2, by omega, fun j hj => (yq j (by omega)).trans (gq j hj), y2⟩, fun z => absurd rfl z⟩
      · refine ⟨1, _, if_neg c5, hx2, ⟨kk2, by omega, fun j hj => (yq j (by omega)).trans (gq j hj), y2⟩, fun z => ⟨k, p, by rw [hx2.lt, hx2.2.2.1]; exact ek, hkd, by rw [hx2.lt]; exact ep, hp2, ?_⟩⟩
        rw [hx2.lt, hx2.2.1]
        exact Or.inr (Or.inr (Or.inl ⟨c3, (jx (g3 c4)).x y1, jx (y3 c5)⟩))
  · rw [if_neg c3, ct_e]
    obtain ⟨g1, g2, g3⟩ := ct_i (i0 := nI (r + 1)) (j0 := nI (d - k + p)) hT h h0 hx
    refine ⟨_, _, rfl, g1, g2, fun z => ⟨k, p, by rw [g1.lt, g1.2.2.1]; exact ek, hkd, by rw [g1.lt]; exact ep, hp2, ?_⟩⟩
    rw [g1.lt, g1.2.1]
    exact Or.inr (Or.inr (Or.inr ⟨c2, c1, c3, jx (g3 (bo_0 z))⟩))
/-- the rows that were come to, one by one -/
theorem well_l {ec es : Int32} (ha : a ≤ 2) (ht : t ≤ 4) : ∀ (fu x kk : Nat) (R : Ro), TyI R → R.d 0 = 0 → BI R a t x kk → x ≤ kk → 25 ≤ x + fu → ∃ res R', LX6_isWellTold_14 ec es (nI a) (nI t) q fu (nI x) (S.roS q R) = (res, S.roS q R') ∧ Ext R R' ∧ (¬ res = 0 → Wel R' a t) := by
  intro fu
  induction fu with
  | zero => intro x kk R _ _ h hx h25; have := h.2.1; omega
  | succ fu ih =>
    intro x kk R hT h0 h hx h25
    have hk24 := h.2.1
    have done : kk ≤ x → Wel R a t := fun hxk => by
      obtain ⟨_, _, E, hE, hinj, hno, hpr⟩ := h
      refine ⟨h0, fun r d hr hd ed => ?_⟩
      by_cases c : ∃ j, j < kk ∧ E j = r
      · obtain ⟨j, hj, ej⟩ := c
        have := hpr j (by omega) hj
        rw [ej] at this
        exact this d hd ed
      · have := hno r hr (fun j hj e => c ⟨j, hj, e⟩)
        rw [this] at ed
        exact absurd ed.symm (m1_ne hd)
    rw [LX6_isWellTold_14_u, roS_s]
    by_cases c1 : (24 : Int32) ≤ nI x
    · rw [if_pos c1]
      exact ⟨1, R, rfl, Ext.r, fun _ => done (by have := (nI_leI (a := 24) (by decide) (by omega)).mp c1; omega)⟩
    rw [if_neg c1]
    have hx24 : x < 24 := by
      rcases Nat.lt_or_ge x 24 with q | q
      · exact q
      · exact absurd (nI_le (a := 24) q (by omega)) c1
    rw [h.1]
    by_cases c2 : nI kk ≤ nI x
    · rw [if_pos c2]
      exact ⟨1, R, rfl, Ext.r, fun _ => done ((nI_leI (by omega) (by omega)).mp c2)⟩
    rw [if_neg c2]
    have hxk : x < kk := by
      rcases Nat.lt_or_ge x kk with q | q
      · exact q
      · exact absurd (nI_le q (by omega)) c2
    rw [cA_e hx24]
    obtain ⟨r, hr, er, hL, d, hd, ed, hEr⟩ : ∃ r, r < 24 ∧ R.q x = nI r ∧ isL (ltR R r) ∧ ∃ d, d ≤ 8 ∧ R.d r = nI d ∧ True := by
      obtain ⟨_, _, E, hE, _⟩ := h
      obtain ⟨g1, g2, g3, d, g4, g5⟩ := hE x hxk
      exact ⟨E x, g2, g1, g3, d, g4, g5, trivial⟩
    rw [er]
    by_cases c3 : sX6_isNamingWhatIsThere (S.roS q R) ec es (nI a) (nI t) q (nI r) = 0
    · rw [if_pos c3]; exact ⟨0, R, rfl, Ext.r, fun z => absurd rfl z⟩
    rw [if_neg c3]
    have hN := nam_e hr ha ht c3
    obtain ⟨res, R', e1, g1, ⟨kk', hkk, gq, g2⟩, g3⟩ := lead_i (S := S) (q := q) hT h hx hr hd ed hN
    rw [pc_e e1]
    by_cases c4 : res = 0
    · rw [if_pos c4]; exact ⟨0, R', rfl, g1, fun z => absurd rfl z⟩
    rw [if_neg c4, nI_1]
    have hB : BI R' a t (x + 1) kk' := by
      obtain ⟨b1, b2, E', b3, b4, b5, b6⟩ := g2
      refine ⟨b1, b2, E', b3, b4, b5, fun j hj1 hj2 => ?_⟩
      by_cases cj : j < x
      · exact b6 j cj hj2
      · obtain rfl : j = x := by omega
        obtain ⟨w1, w2, w3, w4⟩ := b3 j hj2
        have ej : E' j = r := nI_inj (by omega) (by omega) (w1.symm.trans ((gq j hxk).trans er))
        rw [ej]
        intro d2 h8 e2
        have : d = d2 := nI_inj (by omega) (by omega) ((g1.2.2.2.2 r d hd ed).symm.trans e2)
        subst this
        exact ⟨by rw [g1.lt]; exact hL, hN.x g1, g3 c4⟩
    obtain ⟨res2, R2, e2, g5, g6⟩ := ih (x + 1) kk' R' (tyI_x hT g1) (g1.2.2.2.2 0 0 (by omega) h0) hB (by omega) (by omega)
    exact ⟨res2, R2, e2, g1.t g5, g6⟩
end TEL
