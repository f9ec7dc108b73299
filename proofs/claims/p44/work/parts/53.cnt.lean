/-! what the law counts: those that it has marked -/
section CNT
def cnt (h : Nat → Int32) : Nat → Nat
  | 0 => 0
  | m + 1 => cnt h m + (if h m = 0 then 0 else 1)
theorem cnt_1 {h : Nat → Int32} {m : Nat} (q : ¬ h m = 0) : cnt h (m + 1) = cnt h m + 1 := by
  show cnt h m + (if h m = 0 then 0 else 1) = _
  rw [if_neg q]
theorem cnt_0 {h : Nat → Int32} {m : Nat} (q : h m = 0) : cnt h (m + 1) = cnt h m := by
  show cnt h m + (if h m = 0 then 0 else 1) = _
  rw [if_pos q]; rfl
theorem cnt_m {h g : Nat → Int32} (q : ∀ m, ¬ h m = 0 → ¬ g m = 0) : ∀ M, cnt h M ≤ cnt g M := by
  intro M
  induction M with
  | zero => exact Nat.le_refl _
  | succ M ih =>
    by_cases c : h M = 0
    · rw [cnt_0 c]
      by_cases d : g M = 0
      · rw [cnt_0 d]; exact ih
      · rw [cnt_1 d]; omega
    · rw [cnt_1 c, cnt_1 (q M c)]; omega
theorem cnt_s {h : Nat → Int32} {a : Nat} : ∀ b, cnt h a ≤ cnt h (a + b) := by
  intro b
  induction b with
  | zero => exact Nat.le_refl _
  | succ b ih =>
    show cnt h a ≤ cnt h (a + b + 1)
    by_cases c : h (a + b) = 0
    · rw [cnt_0 c]; exact ih
    · rw [cnt_1 c]; omega
theorem cnt_e {h g : Nat → Int32} : ∀ M, (∀ m, m < M → h m = g m) → cnt h M = cnt g M := by
  intro M
  induction M with
  | zero => intro _; rfl
  | succ M ih =>
    intro q
    show cnt h M + (if h M = 0 then 0 else 1) = cnt g M + (if g M = 0 then 0 else 1)
    rw [ih (fun m hm => q m (by omega)), q M (by omega)]
theorem cnt_z {h : Nat → Int32} : ∀ M, (∀ m, m < M → h m = 0) → cnt h M = 0 := by
  intro M
  induction M with
  | zero => intro _; rfl
  | succ M ih =>
    intro q
    rw [cnt_0 (q M (by omega))]
    exact ih (fun m hm => q m (by omega))
/-- one taken away -/
theorem cnt_rm {h : Nat → Int32} {x : Nat} (hx : ¬ h x = 0) : ∀ M, x < M → cnt h M = cnt (upd h x 0) M + 1 := by
  intro M
  induction M with
  | zero => intro q; omega
  | succ M ih =>
    intro q
    by_cases c : x = M
    · subst c
      rw [cnt_1 hx, cnt_0 (show upd h x 0 x = 0 from pk_us), cnt_e x (fun m hm => (show h m = upd h x 0 m from (pk_un (by omega)).symm))]
    · have h1 := ih (by omega)
      have h2 : upd h x 0 M = h M := pk_un (by omega)
      by_cases d : h M = 0
      · rw [cnt_0 d, cnt_0 (h2.trans d)]; exact h1
      · rw [cnt_1 d, cnt_1 (show ¬ upd h x 0 M = 0 by rw [h2]; exact d)]; omega
/-- one more -/
theorem cnt_up {h : Nat → Int32} {x M : Nat} (hx : h x = 0) (q : x < M) : cnt (upd h x 1) M = cnt h M + 1 := by
  have h1 : ¬ upd h x 1 x = 0 := by rw [pk_us]; decide
  rw [cnt_rm h1 M q]
  congr 1
  exact cnt_e M (fun m hm => by
    by_cases c : m = x
    · subst c; rw [pk_us, hx]
    · rw [pk_un c, pk_un c])
theorem cnt_le {M : Nat} : ∀ (t : Nat) (g : Nat → Nat) (h : Nat → Int32), (∀ m, m < M → ¬ h m = 0 → ∃ j, j < t ∧ m = g j) → cnt h M ≤ t := by
  intro t
  induction t with
  | zero =>
    intro g h q
    rw [cnt_z M (fun m hm => Decidable.byContradiction fun c => by obtain ⟨j, hj, _⟩ := q m hm c; omega)]
    exact Nat.le_refl _
  | succ t ih =>
    intro g h q
    have key : ∀ m, m < M → ¬ upd h (g t) 0 m = 0 → ∃ j, j < t ∧ m = g j := fun m hm c => by
      by_cases d : m = g t
      · rw [d, pk_us] at c; exact absurd rfl c
      · rw [pk_un d] at c
        obtain ⟨j, hj, e⟩ := q m hm c
        rcases Nat.lt_or_ge j t with y | y
        · exact ⟨j, y, e⟩
        · obtain rfl : j = t := by omega
          exact absurd e d
    have h1 := ih g (upd h (g t) 0) key
    by_cases c : h (g t) = 0
    · have h2 : cnt h M = cnt (upd h (g t) 0) M := cnt_e M (fun m hm => by
        by_cases d : m = g t
        · subst d; rw [pk_us, c]
        · rw [pk_un d])
      omega
    · rcases Nat.lt_or_ge (g t) M with y | y
      · rw [cnt_rm c M y]; omega
      · have h2 : cnt h M = cnt (upd h (g t) 0) M := cnt_e M (fun m hm => (pk_un (by omega)).symm)
        omega
theorem cnt_eq {M : Nat} : ∀ (c : Nat) (g : Nat → Nat) (h : Nat → Int32), (∀ j, j < c → g j < M ∧ ¬ h (g j) = 0) → (∀ i j, i < c → j < c → g i = g j → i = j) → (∀ m, m < M → ¬ h m = 0 → ∃ j, j < c ∧ m = g j) → cnt h M = c := by
  intro c
  induction c with
  | zero =>
    intro g h _ _ q
    exact cnt_z M (fun m hm => Decidable.byContradiction fun c => by obtain ⟨j, hj, _⟩ := q m hm c; omega)
  | succ c ih =>
    intro g h q1 q2 q3
    obtain ⟨y1, y2⟩ := q1 c (Nat.lt_succ_self c)
    rw [cnt_rm y2 M y1, ih g (upd h (g c) 0) (fun j hj => ?_) (fun i j hi hj => q2 i j (by omega) (by omega)) (fun m hm d => ?_)]
    · refine ⟨(q1 j (by omega)).1, ?_⟩
      rw [pk_un (fun e => by have := q2 j c (by omega) (by omega) e; omega)]
      exact (q1 j (by omega)).2
    · by_cases e : m = g c
      · rw [e, pk_us] at d; exact absurd rfl d
      · rw [pk_un e] at d
        obtain ⟨j, hj, ej⟩ := q3 m hm d
        rcases Nat.lt_or_ge j c with z | z
        · exact ⟨j, z, ej⟩
        · obtain rfl : j = c := by omega
          exact absurd ej e
/-- the room of so many goes over all -/
def tr : Nat → Nat
  | 0 => 0
  | c + 1 => tr c + 8 * (c + 1)
theorem tr_s {c d : Nat} (h : c < d) : tr c + 8 * d ≤ tr d := by
  induction d with
  | zero => omega
  | succ d ih =>
    show tr c + 8 * (d + 1) ≤ tr d + 8 * (d + 1)
    rcases Nat.lt_or_ge c d with q | q
    · have := ih q; omega
    · obtain rfl : c = d := by omega
      omega
theorem tr_m {c d : Nat} (h : c ≤ d) : tr c ≤ tr d := by
  rcases Nat.lt_or_ge c d with q | q
  · have := tr_s q; omega
  · obtain rfl : c = d := by omega
    exact Nat.le_refl _
theorem tr_60 : tr 60 = 14640 := by decide +kernel
end CNT
section MRK
variable {Z : Ho} {t md f n : Nat} {h : Nat → Int32} {v : Int64}
/-- only what is reached was marked -/
def Sub (Z : Ho) (t f : Nat) (h : Nat → Int32) : Prop := ∀ m, m < 4000 → ¬ h m = 0 → RN Z t f (nI m)
/-- a thing that is had was marked -/
def RtD (h : Nat → Int32) (v : Int64) : Prop := ¬ isT v = 0 → ∃ m, m < 4000 ∧ nf v = nI m ∧ ¬ h m = 0
theorem up_m {i : Nat} : ∀ m, ¬ h m = 0 → ¬ upd h i 1 m = 0 := by
  intro m q
  by_cases c : m = i
  · subst c; rw [pk_us]; decide
  · rw [pk_un c]; exact q
theorem RtD.up {i : Nat} (q : RtD h v) : RtD (upd h i 1) v := fun hT => by
  obtain ⟨m, h1, h2, h3⟩ := q hT
  exact ⟨m, h1, h2, up_m m h3⟩
theorem RtD.nw {i : Nat} (hi : i < 4000) (e : nf v = nI i) : RtD (upd h i 1) v := fun _ => ⟨i, hi, e, by rw [pk_us]; decide⟩
theorem RtD.z (e : isT v = 0) : RtD h v := fun q => absurd e q
theorem Sub.up {i : Nat} (q : Sub Z t f h) (hR : RN Z t f (nI i)) : Sub Z t f (upd h i 1) := fun m hm c => by
  by_cases d : m = i
  · subst d; exact hR
  · rw [pk_un d] at c; exact q m hm c
theorem nm_in (hI : Inv Z t md f n) (hmd : md ≤ 4000) (hv : okV (Dm Z.al Z.th t) v) (hT : ¬ isT v = 0) : ∃ m, m < 4000 ∧ nf v = nI m := by
  rcases hv with q | ⟨j, hj, e⟩
  · exact absurd q hT
  · have hb := hI.tb.b hj
    rw [e] at hb
    exact ⟨(nf v).toInt.toNat, by omega, toI (by omega) (by omega)⟩
theorem RN.in (hI : Inv Z t md f n) {m : Int32} (hm : RN Z t f m) : Dm Z.al Z.th t m := hm (Dm Z.al Z.th t) (fun v hv hT => (hv.ok hI).resolve_left hT) (fun m v _ hE hT => (hE.ok hI).resolve_left hT)
theorem sub_le (hI : Inv Z t md f n) (hS : Sub Z t f h) : cnt h 4000 ≤ t := by
  refine cnt_le t (fun j => (nT Z.al Z.th j).toInt.toNat) h (fun m hm c => ?_)
  obtain ⟨j, hj, e⟩ := RN.in hI (hS m hm c)
  refine ⟨j, hj, ?_⟩
  show m = (nT Z.al Z.th j).toInt.toNat
  rw [e, nI_toInt (by omega)]
  rfl
/-- the kind that the law is told is 111 just where there is a thing -/
theorem kc_e : lg_cmp ((vp_nar .char (kf v)).toInt64) 111 = 0 ↔ ¬ isT v = 0 := by
  have e1 : vp_nar .char (kf v) = kf v := nar_2 _
  rw [e1, isT_k]
  unfold lg_cmp
  constructor
  · intro q
    by_cases c : (kf v).toInt64 > 111
    · rw [if_pos c] at q; exact absurd q (by decide)
    · rw [if_neg c] at q
      by_cases d : (kf v).toInt64 = 111
      · have := congrArg Int64.toInt32 d
        rw [Int32.toInt32_toInt64] at this
        exact this
      · rw [if_neg d] at q; exact absurd q (by decide)
  · intro q
    rw [q]; decide
theorem ne_k {a : Int64} (h1 : a < 0) : ¬ lg_cmp a 111 = 0 := by
  unfold lg_cmp
  by_cases c : a > 111
  · rw [if_pos c]; decide
  · rw [if_neg c]
    by_cases d : a = 111
    · subst d; exact absurd h1 (by decide)
    · rw [if_neg d]; decide
/-- what the law finds there: no thing, or that of the number m -/
def Fnd (Z : Ho) (t f : Nat) (kd vl : Int64) (v : Int64) : Prop := (¬ lg_cmp kd 111 = 0 ∧ isT v = 0) ∨ ∃ m, m < 4000 ∧ lg_cmp kd 111 = 0 ∧ vl.toInt32 = nI m ∧ nf v = nI m ∧ RN Z t f (nI m)
theorem fnd_1 (hI : Inv Z t md f n) (hmd : md ≤ 4000) (hv : okV (Dm Z.al Z.th t) v) (hR : ¬ isT v = 0 → RN Z t f (nf v)) {kd vl : Int64} (ek : kd = (vp_nar .char (kf v)).toInt64) (ev : vl = (nf v).toInt64) : Fnd Z t f kd vl v := by
  subst ek ev
  by_cases c : isT v = 0
  · exact Or.inl ⟨fun q => (kc_e.mp q) c, c⟩
  · obtain ⟨m, hm, e⟩ := nm_in hI hmd hv c
    exact Or.inr ⟨m, hm, kc_e.mpr c, by rw [Int32.toInt32_toInt64]; exact e, e, by rw [← e]; exact hR c⟩
theorem kd_g (hI : Inv Z t md f n) (hmd : md ≤ 4000) {g : Nat} (hg : g < 8) : Fnd Z t f (vL_kind Z (nI g)) (vL_value Z (nI g)) (Z.gl g) := by
  have e0 : pA Z.gl 8 (nI g) = Z.gl g := pA_1 (n := 8) hg (by decide)
  have e1 : sX8_checkGlobal Z (nI g) = .inl ((), Z) := if_neg (isB_1L (b := 8) (n := 8) rfl hg (by decide))
  refine fnd_1 hI hmd (hI.gl g hg) (fun q => RN.r (Or.inl ⟨g, hg, rfl⟩) q) ?_ ?_
  · refine xv_v (T := Z) ?_
    unfold sX8_kind
    rw [rc_v e1, e0]
  · refine xv_v (T := Z) ?_
    unfold sX8_value
    rw [rc_v e1, e0]
theorem kd_a (hI : Inv Z t md f n) (hmd : md ≤ 4000) : (¬ lg_cmp (vL_answerKind Z) 111 = 0 ∧ (Z.st = 114 → isT Z.an = 0)) ∨ ∃ m, m < 4000 ∧ lg_cmp (vL_answerKind Z) 111 = 0 ∧ (vL_answer Z).toInt32 = nI m ∧ nf Z.an = nI m ∧ RN Z t f (nI m) := by
  by_cases c : Z.st = 114
  · have e1 : sX8_checkedAnswer Z = .inl (Z.an, Z) := if_pos c
    rcases fnd_1 hI hmd (hI.an c) (fun q => RN.r (Or.inr (Or.inr ⟨c, rfl⟩)) q) (kd := vL_answerKind Z) (vl := vL_answer Z) (xv_v (T := Z) (by unfold sX8_answerKind; rw [rc_v e1])) (xv_v (T := Z) (by unfold sX8_answer; rw [rc_v e1])) with ⟨q1, q2⟩ | q
    · exact Or.inl ⟨q1, fun _ => q2⟩
    · exact Or.inr q
  · have e1 : sX8_checkedAnswer Z = .inr ("java/util/NoSuchElementException", Z) := if_neg c
    refine Or.inl ⟨?_, fun q => absurd q c⟩
    have e2 : vL_answerKind Z = -4000000000000000001 := xv_x (E := "java/util/NoSuchElementException") (T := Z) (by unfold sX8_answerKind; rw [rc_x e1]) xvE_0
    rw [e2]; exact ne_k (by decide)
/-- a frame's place by its letter -/
def SlD (Z : Ho) (h : Nat → Int32) (i : Fin 12) (c : Int32) (k : Nat) : Prop := ¬ isB (nI k) (sX1_placesOf Z i c) = 0 → RtD h (sX1_placeOf Z i c (nI k))
theorem SlD.up {i : Fin 12} {c : Int32} {k j : Nat} (q : SlD Z h i c k) : SlD Z (upd h j 1) i c k := fun z => (q z).up
theorem cf_e {i : Nat} (hI : Inv Z t md f n) (hi : i < f) (h12 : i < 12) : sX8_checkedFrame Z (nI i) = .inl (⟨i, h12⟩, Z) := by
  unfold sX8_checkedFrame
  have := hI.f12
  rw [hI.fn, if_neg (isB_1n hi (by omega)), oc_s (frameAt_1 h12)]
theorem kd_v {i : Nat} (hI : Inv Z t md f n) (hmd : md ≤ 4000) (hi : i < f) (h12 : i < 12) : Fnd Z t f (vL_slotKind Z (nI i) 115 0) (vL_slot Z (nI i) 115 0) (Z.fr ⟨i, h12⟩).v := by
  obtain ⟨N, hN, eN, hv⟩ := pl_ok (hI.fs i h12 hi)
  obtain ⟨k, a, tt, r, d, y1, y2, y3, y4, y5, y6, y7, y8, y9, y10, ⟨p1, _⟩, _⟩ := hI.fs i h12 hi
  have hNN : N = 1 + a + tt + d := nI_inj (by omega) (by omega) (eN.symm.trans (pls_e y1 y3 y5 y9))
  have e1 : sX8_checkedSlot Z (nI i) 115 0 = .inl ((Z.fr ⟨i, h12⟩).v, Z) := by
    unfold sX8_checkedSlot
    rw [rc_v (cf_e hI hi h12)]; rfl
  refine fnd_1 hI hmd p1 (fun q => RN.r (Or.inr (Or.inl ⟨i, h12, hi, N, 0, eN, hN, by omega, pl_v.symm⟩)) q) ?_ ?_
  · exact xv_v (T := Z) (by unfold sX8_slotKind; rw [rc_v e1])
  · exact xv_v (T := Z) (by unfold sX8_slot; rw [rc_v e1])
theorem sl_rt {i k : Nat} {c : Int32} (hI : Inv Z t md f n) (hi : i < f) (h12 : i < 12) (hc : c = 97 ∨ c = 116 ∨ c = 112) (hk : k < 8) (hb : ¬ isB (nI k) (sX1_placesOf Z ⟨i, h12⟩ c) = 0) : RtV Z f (sX1_placeOf Z ⟨i, h12⟩ c (nI k)) := by
  obtain ⟨N, hN, eN, hv⟩ := pl_ok (hI.fs i h12 hi)
  obtain ⟨kk, a, tt, r, d, y1, y2, y3, y4, y5, y6, y7, y8, y9, y10, _, _⟩ := hI.fs i h12 hi
  have hNN : N = 1 + a + tt + d := nI_inj (by omega) (by omega) (eN.symm.trans (pls_e y1 y3 y5 y9))
  rcases hc with rfl | rfl | rfl
  · rw [po_e y1 y3] at hb
    obtain ⟨j, hj, ej⟩ := isB_ex (by omega) hb
    have : k = j := nI_inj (by omega) (by omega) ej
    subst this
    have e3 : sX1_placeOf Z ⟨i, h12⟩ 97 (nI k) = (Z.fr ⟨i, h12⟩).a k := (if_pos rfl).trans (pA_1 (n := 2) (by omega) (by decide))
    rw [e3]
    exact Or.inr (Or.inl ⟨i, h12, hi, N, 1 + k, eN, hN, by omega, (pl_a y1 y3 y4 hj).symm⟩)
  · rw [pt_e y1 y5] at hb
    obtain ⟨j, hj, ej⟩ := isB_ex (by omega) hb
    have : k = j := nI_inj (by omega) (by omega) ej
    subst this
    have e3 : sX1_placeOf Z ⟨i, h12⟩ 116 (nI k) = (Z.fr ⟨i, h12⟩).t k := (if_neg (by decide)).trans ((if_pos rfl).trans (pA_1 (n := 4) (by omega) (by decide)))
    rw [e3]
    exact Or.inr (Or.inl ⟨i, h12, hi, N, 1 + a + k, eN, hN, by omega, (pl_t y1 y3 y4 y5 y6 hj).symm⟩)
  · rw [pd_e, y9] at hb
    obtain ⟨j, hj, ej⟩ := isB_ex (by omega) hb
    have : k = j := nI_inj (by omega) (by omega) ej
    subst this
    have e3 : sX1_placeOf Z ⟨i, h12⟩ 112 (nI k) = (Z.fr ⟨i, h12⟩).p k := (if_neg (by decide)).trans ((if_neg (by decide)).trans (pA_1 (n := 8) (by omega) (by decide)))
    rw [e3]
    exact Or.inr (Or.inl ⟨i, h12, hi, N, 1 + a + tt + k, eN, hN, by omega, (pl_p (d := d) y1 y3 y4 y5 y6 hj y10).symm⟩)
theorem kd_s {i k : Nat} {c : Int32} (hI : Inv Z t md f n) (hmd : md ≤ 4000) (hi : i < f) (h12 : i < 12) (hc : c = 97 ∨ c = 116 ∨ c = 112) (hk : k < 8) :
    (¬ lg_cmp (vL_slotKind Z (nI i) c (nI k)) 111 = 0 ∧ (¬ isB (nI k) (sX1_placesOf Z ⟨i, h12⟩ c) = 0 → isT (sX1_placeOf Z ⟨i, h12⟩ c (nI k)) = 0)) ∨
    ∃ m, m < 4000 ∧ lg_cmp (vL_slotKind Z (nI i) c (nI k)) 111 = 0 ∧ (vL_slot Z (nI i) c (nI k)).toInt32 = nI m ∧ nf (sX1_placeOf Z ⟨i, h12⟩ c (nI k)) = nI m ∧ RN Z t f (nI m) := by
  have e0 : sX8_checkedSlot Z (nI i) c (nI k) = if isB (nI k) (sX1_placesOf Z ⟨i, h12⟩ c) = 0 then (.inr ("java/util/NoSuchElementException", Z)) else (.inl (sX1_placeOf Z ⟨i, h12⟩ c (nI k), Z)) := by
    unfold sX8_checkedSlot
    rw [rc_v (cf_e hI hi h12)]
    rcases hc with rfl | rfl | rfl <;> rfl
  by_cases hb : isB (nI k) (sX1_placesOf Z ⟨i, h12⟩ c) = 0
  · rw [if_pos hb] at e0
    refine Or.inl ⟨?_, fun q => absurd hb q⟩
    have e2 : vL_slotKind Z (nI i) c (nI k) = -4000000000000000003 := xv_x (E := "java/util/NoSuchElementException") (T := Z) (by unfold sX8_slotKind; rw [rc_x e0]) ((xvE_s (by decide +kernel)).trans ((xvE_s (by decide +kernel)).trans xvE_0))
    rw [e2]; exact ne_k (by decide)
  · rw [if_neg hb] at e0
    have hR := sl_rt hI hi h12 hc hk hb
    rcases fnd_1 hI hmd (hR.ok hI) (fun q => RN.r hR q) (kd := vL_slotKind Z (nI i) c (nI k)) (vl := vL_slot Z (nI i) c (nI k)) (xv_v (T := Z) (by unfold sX8_slotKind; rw [rc_v e0])) (xv_v (T := Z) (by unfold sX8_slot; rw [rc_v e0])) with ⟨q1, q2⟩ | q
    · exact Or.inl ⟨q1, fun _ => q2⟩
    · exact Or.inr q
/-- all places of a frame -/
def FrD (Z : Ho) (h : Nat → Int32) (i : Fin 12) : Prop := RtD h (Z.fr i).v ∧ ∀ k, k < 8 → SlD Z h i 97 k ∧ SlD Z h i 116 k ∧ SlD Z h i 112 k
theorem FrD.up {i : Fin 12} {j : Nat} (q : FrD Z h i) : FrD Z (upd h j 1) i := ⟨q.1.up, fun k hk => ⟨(q.2 k hk).1.up, (q.2 k hk).2.1.up, (q.2 k hk).2.2.up⟩⟩
theorem rt_all (hI : Inv Z t md f n) (hg : ∀ g, g < 8 → RtD h (Z.gl g)) (ha : Z.st = 114 → RtD h Z.an) (hf : ∀ i (hi : i < 12), i < f → FrD Z h ⟨i, hi⟩) : ∀ v, RtV Z f v → RtD h v := by
  intro v hv
  rcases hv with ⟨g, hg', e⟩ | ⟨i, h12, hi, N, j, eN, hN, hj, e⟩ | ⟨e1, e⟩
  · rw [e]; exact hg g hg'
  · obtain ⟨kk, a, tt, r, d, y1, y2, y3, y4, y5, y6, y7, y8, y9, y10, _, _⟩ := hI.fs i h12 hi
    have hNN : N = 1 + a + tt + d := nI_inj (by omega) (by omega) (eN.symm.trans (pls_e y1 y3 y5 y9))
    obtain ⟨d1, d2⟩ := hf i h12 hi
    rw [e]
    rcases Nat.eq_zero_or_pos j with c | c
    · subst c; rw [pl_v]; exact d1
    rcases Nat.lt_or_ge j (1 + a) with c1 | c1
    · have ej : j = 1 + (j - 1) := by omega
      have e3 : sX1_placeOf Z ⟨i, h12⟩ 97 (nI (j - 1)) = (Z.fr ⟨i, h12⟩).a (j - 1) := (if_pos rfl).trans (pA_1 (n := 2) (by omega) (by decide))
      rw [ej, pl_a y1 y3 y4 (by omega), ← e3]
      exact (d2 (j - 1) (by omega)).1 (by rw [po_e y1 y3]; exact isB_1n (by omega) (by omega))
    rcases Nat.lt_or_ge j (1 + a + tt) with c2 | c2
    · have ej : j = 1 + a + (j - 1 - a) := by omega
      have e3 : sX1_placeOf Z ⟨i, h12⟩ 116 (nI (j - 1 - a)) = (Z.fr ⟨i, h12⟩).t (j - 1 - a) := (if_neg (by decide)).trans ((if_pos rfl).trans (pA_1 (n := 4) (by omega) (by decide)))
      rw [ej, pl_t y1 y3 y4 y5 y6 (by omega), ← e3]
      exact (d2 (j - 1 - a) (by omega)).2.1 (by rw [pt_e y1 y5]; exact isB_1n (by omega) (by omega))
    · have ej : j = 1 + a + tt + (j - 1 - a - tt) := by omega
      have e3 : sX1_placeOf Z ⟨i, h12⟩ 112 (nI (j - 1 - a - tt)) = (Z.fr ⟨i, h12⟩).p (j - 1 - a - tt) := (if_neg (by decide)).trans ((if_neg (by decide)).trans (pA_1 (n := 8) (by omega) (by decide)))
      rw [ej, pl_p (d := d) y1 y3 y4 y5 y6 (by omega) y10, ← e3]
      exact (d2 (j - 1 - a - tt) (by omega)).2.2 (by rw [pd_e, y9]; exact isB_1n (by omega) (by omega))
  · rw [e]; exact ha e1
/-- the fields of a thing that is there -/
def ClD (Z : Ho) (t : Nat) (h : Nat → Int32) (m : Nat) : Prop := ∀ v, EdV Z t (nI m) v → RtD h v
theorem ClD.up {m j : Nat} (q : ClD Z t h m) : ClD Z t (upd h j 1) m := fun v hv => (q v hv).up
/-- a field, as the law asks for it: there is none, no thing is there, or one -/
theorem kd_f {m k : Nat} (hI : Inv Z t md f n) (hmd : md ≤ 4000) (hm : m < 4000) (hk : k < 8) (hR : RN Z t f (nI m)) :
    (¬ lg_cmp (vL_fieldKind Z (nI m) (nI k)) 111 = 0 ∧ ∀ i z v, i < t → nT Z.al Z.th i = nI m → (Z.th (pT Z.al i)).z = nI z → z ≤ 8 → k < z → v = (Z.th (pT Z.al i)).p k → isT v = 0) ∨
    ∃ (j i : Nat) (z : Nat), j < 4000 ∧ i < t ∧ nT Z.al Z.th i = nI m ∧ (Z.th (pT Z.al i)).z = nI z ∧ z ≤ 8 ∧ k < z ∧ nf ((Z.th (pT Z.al i)).p k) = nI j ∧ RN Z t f (nI j) ∧ lg_cmp (vL_fieldKind Z (nI m) (nI k)) 111 = 0 ∧
      sX5_withNumber Z (nI m) = some (pT Z.al i) ∧ ¬ sX4_hasField Z (pT Z.al i) (nI k) = 0 ∧ (sF_LfieldValue Z (nI m) (nI k) (pT Z.al i)).toInt32 = nI j := by
  have ht := hI.tb.l
  obtain ⟨i, hi, ei⟩ := RN.in hI hR
  have ew : sX5_withNumber Z (nI m) = some (pT Z.al i) := by rw [← ei]; exact wn_1 hI.tb hi
  obtain ⟨z, hz, ez⟩ := hI.tb.z hi
  have uni : ∀ i' z' v, i' < t → nT Z.al Z.th i' = nI m → (Z.th (pT Z.al i')).z = nI z' → z' ≤ 8 → k < z' → v = (Z.th (pT Z.al i')).p k → k < z ∧ v = (Z.th (pT Z.al i)).p k := fun i' z' v h1 h2 h3 h4 h5 h6 => by
    have : i' = i := hI.tb.n h1 hi (h2.trans ei.symm)
    subst this
    have : z' = z := nI_inj (by omega) (by omega) (h3.symm.trans ez)
    subst this
    exact ⟨h5, h6⟩
  have hf : sX4_hasField Z (pT Z.al i) (nI k) = isB (nI k) (nI z) := by
    unfold sX4_hasField
    rw [isB_b, ez]
  by_cases c : k < z
  · have hf1 : ¬ sX4_hasField Z (pT Z.al i) (nI k) = 0 := by rw [hf]; exact isB_1n c (by omega)
    have e3 : pA (Z.th (pT Z.al i)).p 8 (nI k) = (Z.th (pT Z.al i)).p k := pA_1 (n := 8) hk (by decide)
    have e0 : sX8_checkedField Z (nI m) (nI k) = .inl ((Z.th (pT Z.al i)).p k, Z) := by
      unfold sX8_checkedField
      rw [oc_s ew, if_neg hf1, e3]
    have hE : EdV Z t (nI m) ((Z.th (pT Z.al i)).p k) := ⟨i, z, k, hi, ei, ez, hz, c, rfl⟩
    rcases fnd_1 hI hmd (hE.ok hI) (fun q => RN.e hR hE q) (kd := vL_fieldKind Z (nI m) (nI k)) (vl := sF_LfieldValue Z (nI m) (nI k) (pT Z.al i)) (xv_v (T := Z) (by unfold sX8_fieldKind; rw [rc_v e0])) (by show (nf (pA ((Z.th (pT Z.al i)).p) 8 (nI k))).toInt64 = _; rw [e3]) with ⟨q1, q2⟩ | ⟨j, q1, q2, q3, q4, q5⟩
    · exact Or.inl ⟨q1, fun i' z' v h1 h2 h3 h4 h5 h6 => by rw [(uni i' z' v h1 h2 h3 h4 h5 h6).2]; exact q2⟩
    · exact Or.inr ⟨j, i, z, q1, hi, ei, ez, hz, c, q4, q5, q2, ew, hf1, q3⟩
  · have hf1 : sX4_hasField Z (pT Z.al i) (nI k) = 0 := by rw [hf]; exact isB_h (by omega) (by omega)
    have e0 : sX8_checkedField Z (nI m) (nI k) = .inr ("java/lang/IndexOutOfBoundsException", Z) := by
      unfold sX8_checkedField
      rw [oc_s ew, if_pos hf1]
    have e2 : vL_fieldKind Z (nI m) (nI k) = -4000000000000000001 := xv_x (E := "java/lang/IndexOutOfBoundsException") (T := Z) (by unfold sX8_fieldKind; rw [rc_x e0]) xvE_0
    exact Or.inl ⟨by rw [e2]; exact ne_k (by decide), fun i' z' v h1 h2 h3 h4 h5 h6 => absurd (uni i' z' v h1 h2 h3 h4 h5 h6).1 c⟩
/-- marked all round: just what is reached -/
theorem mark_all (hS : Sub Z t f h) (hr : ∀ v, RtV Z f v → RtD h v) (hc : ∀ m, m < 4000 → ¬ h m = 0 → ClD Z t h m) (m : Nat) (hm : m < 4000) : RN Z t f (nI m) → ¬ h m = 0 := by
  intro q
  obtain ⟨m', h1, h2, h3⟩ := q (fun x => ∃ m', m' < 4000 ∧ x = nI m' ∧ ¬ h m' = 0) (fun v hv hT => hr v hv hT) (fun x v ⟨m', y1, y2, y3⟩ hE hT => by
    rw [y2] at hE
    exact hc m' y1 y3 v hE hT)
  have : m = m' := nI_inj (by omega) (by omega) h2
  subst this
  exact h3
end MRK
