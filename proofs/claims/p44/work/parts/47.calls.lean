/-! the calls leave a house as it must be -/
section CAL
variable {S : Ho} {t md f n a tt b q : Nat} {R R' : Ro} {v : Int64}
/-- the state behind a call that may throw -/
def rsS {α : Type} (e : Rs α) : Ho := match e with
  | .inl q => q.2
  | .inr q => q.2
/-- as it was, but for what a call may change that moves no thing and no frame -/
def Sm (S S' : Ho) (t md f n : Nat) : Prop := Inv S' t md f n ∧ S'.fr = S.fr
theorem Inv.tyS (h : Inv S t md f n) (hR : TyI R') : Inv (S.roS S.ty R') t md f n := by
  have hro : ∀ k, k < S.nt → (updN S.ro S.ty R') (S.to k).q = S.ro (S.to k).q := fun k hk => by
    obtain ⟨_, _, _, _, _, _, _, g, _⟩ := h.mo hk
    exact updN_o g
  refine ⟨h.1, h.2.1, ⟨fun j k q => h.me q, fun k hk => ?_, ?_, h.tn⟩, ⟨h.fn, h.f12, fun i hi q => (h.fs i hi q).g (fun _ q => q) (Nat.le_refl _) (fun k hk => ⟨rfl, rfl, hro k hk⟩)⟩, h.2.2.2.2⟩
  · obtain ⟨a, t, g1, g2, g3, g4, g5, g6, g7⟩ := h.mo hk
    exact ⟨a, t, g1, g2, g3, g4, by show Wel ((updN S.ro S.ty R') (S.to k).q) a t; rw [hro k hk]; exact g5, g6, g7⟩
  · show TyI ((updN S.ro S.ty R') S.ty)
    rw [updN_s]; exact hR
theorem nar_c {c : Int32} (h : isL c) : vp_nar .char c = c := by
  rcases h with z | z | z | z | z | z | z | z | z | z | z | z | z | z | z | z | z | z | z | z | z | z | z | z | z | z <;> subst z <;> rfl
theorem row_inv (h : Inv S t md f n) {c u v : Int32} : Sm S (rsS (sX8_row S c u v)) t md f n := by
  unfold sX8_row
  by_cases c1 : sX8_isLetter S c = 0
  · rw [if_pos c1]; exact ⟨h, rfl⟩
  rw [if_neg c1]
  by_cases c2 : (S.ro S.ty).n < 24
  rotate_left
  · rw [if_neg c2]; exact ⟨h, rfl⟩
  rw [if_pos c2]
  have hL : isL c := by
    unfold sX8_isLetter at c1
    by_cases q : isL c
    · exact q
    · exact absurd (if_neg q) c1
  obtain ⟨m, hm, em, hl⟩ := h.ty
  rw [em] at c2
  have hm24 : m < 24 := (nI_ltI (b := 24) (by omega) (by decide)).mp c2
  have e1 : sX3_enlist S S.ty c u v = (S.roS S.ty (((((S.ro S.ty).sl (upd ((S.ro S.ty).l) m (vp_nar .char c))).sf (upd ((S.ro S.ty).f) m u)).sg (upd ((S.ro S.ty).g) m v)).sn (nI (m + 1)))) := by
    unfold sX3_enlist
    rw [em, if_neg (isB_1L (b := 24) (n := 24) rfl hm24 (by decide)), nI_clamp (by omega), nI_1]
  rw [vc_e e1]
  refine ⟨h.tyS ⟨m + 1, by omega, rfl, fun r hr => ?_⟩, rfl⟩
  show isL (vp_nar .char (upd (S.ro S.ty).l m (vp_nar .char c) r))
  by_cases cr : r = m
  · subst cr
    rw [pk_us, nar_2, nar_c hL]; exact hL
  · rw [pk_un cr]; exact hl r (by omega)
theorem wipe_inv (h : Inv S t md f n) : Sm S (sX8_wipe S).2 t md f n :=
  ⟨h.tyS ⟨0, by omega, rfl, fun r hr => absurd hr (Nat.not_lt_zero r)⟩, rfl⟩
/-- told well or not: only the typed rows' depths have changed -/
theorem wt_e {ec es : Int32} (hT : TyI (S.ro q)) (ha : a ≤ 2) (ht : t ≤ 4) : ∃ res R', sX6_isWellTold S ec es (nI a) (nI t) q = (res, S.roS q R') ∧ TyI R' ∧ (¬ res = 0 → Wel R' a t) := by
  obtain ⟨R0, eR⟩ : ∃ R0, ((S.ro q).sd (fillI ((S.ro q).d) (-1) 24)).sk 0 = R0 := ⟨_, rfl⟩
  have hT0 : TyI R0 := by rw [← eR]; exact hT
  have hB : BI R0 a t 0 0 := by
    rw [← eR]
    refine ⟨rfl, by omega, fun _ => 0, fun j hj => absurd hj (Nat.not_lt_zero j), fun i j hi => absurd hi (Nat.not_lt_zero i), fun r hr _ => ?_, fun j hj => absurd hj (Nat.not_lt_zero j)⟩
    show fillI ((S.ro q).d) (-1) 24 r = -1
    unfold fillI
    rw [if_pos hr]
  obtain ⟨g1, ⟨kk, hk, gq, g2⟩, g3⟩ := ct_i (i0 := 0) (j0 := 0) hT0 hB (by decide) (Nat.le_refl _)
  have e1 : sX3_comeToFirst S q = (vp_nar .boolean (ctR R0 0 0).1, S.roS q (ctR R0 0 0).2) := by
    unfold sX3_comeToFirst
    rw [eR, ct_e]; rfl
  unfold sX6_isWellTold
  rw [pc_e e1]
  by_cases c1 : vp_nar .boolean (ctR R0 0 0).1 = 0
  · rw [if_pos c1]
    exact ⟨0, _, rfl, tyI_x hT0 g1, fun z => absurd rfl z⟩
  rw [if_neg c1]
  obtain ⟨e, e0, j, hj, ej, ed, e8⟩ := g3 (bo_0 c1)
  have : 0 = j := nI_inj (by omega) (by omega) (show nI 0 = nI j from ej)
  subst this
  obtain ⟨res, R', y1, y2, y3⟩ := well_l (S := S) (q := q) (ec := ec) (es := es) ha ht 25 0 kk _ (tyI_x hT0 g1) (by rw [ed, ← e0]) g2 (Nat.zero_le _) (by omega)
  exact ⟨res, R', y1, tyI_x (tyI_x hT0 g1) y2, y3⟩
def roN : Ro := (((((fun _ => 0), (fun _ => 0)), ((fun _ => 0), (fun _ => 0))), (((fun _ => 0), 0), 0)) : Ro)
theorem met_fin {V : To} {me' : Nat → Option Nat} (h : Inv S t md f n) (hW : Wel R' a tt) (h1 : V.a = nI a) (h2 : a ≤ 2) (h3 : V.t = nI tt) (h4 : tt ≤ 4) (h5 : V.q = S.ty) (hme : ∀ j k, me' j = some k → k < S.nt + 1) :
    Inv (((((((S.roS S.ty R').snt (S.nt + 1)).toS S.nt V).sme me').snr (S.nr + 1)).roS S.nr roN).sty S.nr) t md f n := by
  have hty := h.tn
  have hto : ∀ k, k < S.nt → (updN S.to S.nt V) k = S.to k := fun k hk => updN_o (by omega)
  have hro : ∀ k, k < S.nt → (updN (updN S.ro S.ty R') S.nr roN) (S.to k).q = S.ro (S.to k).q := fun k hk => by
    obtain ⟨_, _, _, _, _, _, _, g, g7⟩ := h.mo hk
    rw [updN_o (by omega), updN_o g]
  refine ⟨h.1, h.2.1, ⟨hme, fun k hk => ?_, ?_, Nat.lt_succ_self _⟩, ⟨h.fn, h.f12, fun i hi q => (h.fs i hi q).g (fun _ q => q) (Nat.le_succ _) (fun k hk => ?_)⟩, h.2.2.2.2⟩
  · have hk' : k < S.nt + 1 := hk
    show MOK (updN S.to S.nt V) (updN (updN S.ro S.ty R') S.nr roN) (S.nr + 1) S.nr k
    by_cases c : k = S.nt
    · subst c
      refine ⟨a, tt, ?_, h2, ?_, h4, ?_, ?_, ?_⟩
      · rw [updN_s]; exact h1
      · rw [updN_s]; exact h3
      · rw [updN_s, h5, updN_o (by omega), updN_s]; exact hW
      · rw [updN_s, h5]; omega
      · rw [updN_s, h5]; omega
    · obtain ⟨a, t, g1, g2, g3, g4, g5, g6, g7⟩ := h.mo (k := k) (by omega)
      refine ⟨a, t, ?_, g2, ?_, g4, ?_, ?_, ?_⟩
      · rw [hto k (by omega)]; exact g1
      · rw [hto k (by omega)]; exact g3
      · rw [hto k (by omega), hro k (by omega)]; exact g5
      · rw [hto k (by omega)]; omega
      · rw [hto k (by omega)]; omega
  · show TyI ((updN (updN S.ro S.ty R') S.nr roN) S.nr)
    rw [updN_s]
    exact ⟨0, by omega, rfl, fun r hr => absurd hr (Nat.not_lt_zero r)⟩
  · show ((updN S.to S.nt V) k).a = _ ∧ ((updN S.to S.nt V) k).t = _ ∧ (updN (updN S.ro S.ty R') S.nr roN) ((updN S.to S.nt V) k).q = _
    rw [hto k hk]
    exact ⟨rfl, rfl, hro k hk⟩
theorem method_inv (h : Inv S t md f n) {i j n0 t0 : Int32} : Sm S (rsS (sX8_method S i j n0 t0)) t md f n := by
  unfold sX8_method sX8_checkPlaceOfMethod
  by_cases c1 : isB i S.cn = 0
  · rw [if_pos c1]; exact ⟨h, rfl⟩
  rw [if_neg c1]
  by_cases c2 : isB j 16 = 0
  · rw [if_pos c2]; exact ⟨h, rfl⟩
  rw [if_neg c2, rc_v rfl]
  by_cases c3 : isB n0 3 = 0
  · rw [if_pos c3]; exact ⟨h, rfl⟩
  rw [if_neg c3]
  by_cases c4 : isB t0 5 = 0
  · rw [if_pos c4]; exact ⟨h, rfl⟩
  rw [if_neg c4]
  obtain ⟨a, ha, ea⟩ := isB_ex (n := 3) (by decide) c3
  obtain ⟨tt, htt, et⟩ := isB_ex (n := 5) (by decide) c4
  subst ea et
  obtain ⟨res, R', e1, g1, g2⟩ := wt_e (S := S) (q := S.ty) (a := a) (t := tt) (ec := i) (es := j) h.ty (by omega) (by omega)
  rw [pc_e e1]
  by_cases c5 : res = 0
  · rw [if_pos c5]; exact ⟨h.tyS g1, rfl⟩
  rw [if_neg c5]
  have hme0 : ∀ j k, S.me j = some k → k < S.nt + 1 := fun j k q => Nat.lt_succ_of_lt (h.me q)
  rw [vc_e rfl]
  unfold sX8_placeMethod
  by_cases c6 : isB i 12 = 0
  · rw [if_pos c6, vc_e rfl, vc_e rfl]
    exact ⟨met_fin (me' := S.me) h (g2 c5) rfl (by omega) rfl (by omega) rfl hme0, rfl⟩
  rw [if_neg c6]
  by_cases c7 : isB j 16 = 0
  · rw [if_pos c7, vc_e rfl, vc_e rfl]
    exact ⟨met_fin (me' := S.me) h (g2 c5) rfl (by omega) rfl (by omega) rfl hme0, rfl⟩
  rw [if_neg c7, vc_e rfl, vc_e rfl]
  refine ⟨met_fin (me' := updN S.me (Int32.toNatClampNeg ((i * 16) + j)) (some S.nt)) h (g2 c5) rfl (by omega) rfl (by omega) rfl (fun j1 k1 q => ?_), rfl⟩
  by_cases cj : j1 = Int32.toNatClampNeg ((i * 16) + j)
  · subst cj; rw [updN_s] at q; cases q; exact Nat.lt_succ_self _
  · rw [updN_o cj] at q; exact hme0 j1 k1 q
theorem remove_inv (h : Inv S t md f n) {i j : Int32} : Sm S (rsS (sX8_remove S i j)) t md f n := by
  unfold sX8_remove sX8_checkedMethod sX8_checkPlaceOfMethod
  by_cases c1 : isB i S.cn = 0
  · rw [if_pos c1]; exact ⟨h, rfl⟩
  rw [if_neg c1]
  by_cases c2 : isB j 16 = 0
  · rw [if_pos c2]; exact ⟨h, rfl⟩
  rw [if_neg c2, rc_v rfl]
  cases c3 : sX8_methodAt S i j with
  | none => rw [oc_n rfl]; exact ⟨h, rfl⟩
  | some k =>
    rw [oc_s rfl, rc_v rfl]
    rw [vc_e rfl]
    unfold sX8_placeNone
    by_cases c6 : isB i 12 = 0
    · rw [if_pos c6]; exact ⟨h, rfl⟩
    rw [if_neg c6, if_neg c2]
    refine ⟨⟨h.1, h.2.1, ⟨fun j1 k1 q => ?_, fun k q => h.mo q, h.ty, h.tn⟩, h.2.2.2.1, h.2.2.2.2⟩, rfl⟩
    have q' : updN S.me (Int32.toNatClampNeg ((i * 16) + j)) none j1 = some k1 := q
    by_cases cj : j1 = Int32.toNatClampNeg ((i * 16) + j)
    · subst cj; rw [updN_s] at q'; cases q'
    · rw [updN_o cj] at q'; exact h.me q'
theorem number_inv (h : Inv S t md f n) {g x : Int32} : Sm S (rsS (sX8_number S g x)) t md f n := by
  unfold sX8_number sX8_checkGlobal
  by_cases c1 : isB g 8 = 0
  · rw [if_pos c1]; exact ⟨h, rfl⟩
  rw [if_neg c1, rc_v rfl]
  exact ⟨h.glU okV_n, rfl⟩
theorem nothing_inv (h : Inv S t md f n) {g : Int32} : Sm S (rsS (sX8_nothing S g)) t md f n := by
  unfold sX8_nothing sX8_checkGlobal
  by_cases c1 : isB g 8 = 0
  · rw [if_pos c1]; exact ⟨h, rfl⟩
  rw [if_neg c1, rc_v rfl]
  exact ⟨h.glU okV_u, rfl⟩
theorem make_inv (h : Inv S t md f n) (hmd : md < 2 ^ 30) {g x : Int32} : ∃ t' md', md' + t = md + t' ∧ Sm S (rsS (sX8_make S g x)) t' md' f n := by
  unfold sX8_make
  by_cases c1 : isB g 8 = 0
  · rw [if_pos c1]; exact ⟨t, md, rfl, h, rfl⟩
  rw [if_neg c1]
  by_cases c2 : isB x S.cn = 0
  · rw [if_pos c2]; exact ⟨t, md, rfl, h, rfl⟩
  rw [if_neg c2]
  by_cases c3 : isPl x = 0
  rotate_left
  · rw [if_neg c3]; exact ⟨t, md, rfl, h, rfl⟩
  rw [if_pos c3]
  by_cases c4 : sX5_isFull S = 0
  rotate_left
  · rw [if_neg c4]; exact ⟨t, md, rfl, h, rfl⟩
  rw [if_pos c4]
  have ht : t < 60 := by
    unfold sX5_isFull at c4
    rw [h.tb.t] at c4
    rcases Nat.lt_or_ge t 60 with q | q
    · exact q
    · rw [if_neg (show ¬ nI t < 60 from nI_nlt (a := t) (b := 60) q (by have := h.tb.l; omega))] at c4
      exact absurd c4 (by decide)
  obtain ⟨z, hz, ez⟩ := fc_e h x
  rw [ez, pc_e (en_e h.tb ht)]
  exact ⟨t + 1, md + 1, by omega, (h.enU ht hmd hz).glU (okV_mk h.tb), rfl⟩
theorem end_inv (h : Inv S t md f n) : ∃ f', Inv (rsS (sX8_end S)) t md f' n ∧ psum (rsS (sX8_end S)).fr f' ≤ psum S.fr f := by
  unfold sX8_end
  by_cases c1 : S.fn = 0
  · rw [if_pos c1]; exact ⟨f, h, Nat.le_refl _⟩
  rw [if_neg c1]
  exact ⟨0, ⟨h.1, ⟨h.gl, fun q => absurd (show (45 : Int32) = 114 from q) (by decide), h.fc⟩, h.2.2.1, ⟨rfl, by omega, fun i hi q => absurd q (Nat.not_lt_zero i)⟩, h.2.2.2.2⟩, Nat.zero_le _⟩
theorem begin_inv (h : Inv S t md f n) {g s n0 u v : Int32} : (∃ E, sX8_begin S g s n0 u v = .inr (E, S)) ∨ ∃ c S', sX8_begin S g s n0 u v = .inl (c, S') ∧ Inv S' t md 1 n ∧ psum S'.fr 1 = 24 := by
  unfold sX8_begin
  by_cases c1 : isB g 8 = 0
  · rw [if_pos c1]; exact Or.inl ⟨_, rfl⟩
  rw [if_neg c1]
  by_cases c2 : isB s 16 = 0
  · rw [if_pos c2]; exact Or.inl ⟨_, rfl⟩
  rw [if_neg c2]
  by_cases c3 : isB n0 3 = 0
  · rw [if_pos c3]; exact Or.inl ⟨_, rfl⟩
  rw [if_neg c3]
  by_cases c4 : S.st = 115
  · rw [if_pos c4]; exact Or.inl ⟨_, rfl⟩
  rw [if_neg c4]
  have hv : okV (Dm S.al S.th t) (pA S.gl 8 g) := pA_in (n := 8) (by decide) okV_u h.gl
  obtain ⟨v9, ev⟩ : ∃ v9, pA S.gl 8 g = v9 := ⟨_, rfl⟩
  rw [ev] at hv ⊢
  cases c5 : sX8_lookUp S (sX5_classOfValue S v9) s with
  | none => rw [oc_n rfl]; exact Or.inl ⟨_, rfl⟩
  | some k =>
    have hk := lk_lt (fun j k q => h.me q) c5
    rw [oc_s rfl]
    by_cases c6 : (S.to k).a = n0
    rotate_left
    · rw [if_neg c6]; exact Or.inl ⟨_, rfl⟩
    rw [if_pos c6]
    have h12 : (0 : Nat) < 12 := by decide
    have e1 : sX8_openFrame ((S.sst 115).sfn 0) k v9 = (some ⟨0, h12⟩, opS ((S.sst 115).sfn 0) ⟨0, h12⟩ k v9) := opn_e (f := 0) h12 rfl
    rw [pc_e e1, oc_s rfl]
    obtain ⟨a3, t3, q1, q2, q3, q4, q5, q6, q7⟩ := h.mo hk
    have htc := to_c (S := S) (k := k) (y := (S.to k).n + 1)
    have hfr : (opS ((S.sst 115).sfn 0) ⟨0, h12⟩ k v9).fr ⟨0, h12⟩ = opF (S.fr ⟨0, h12⟩) k v9 := (updF_s : updF S.fr ⟨0, h12⟩ (opF (S.fr ⟨0, h12⟩) k v9) ⟨0, h12⟩ = opF (S.fr ⟨0, h12⟩) k v9)
    rw [hfr]
    refine Or.inr ⟨_, _, rfl, ⟨h.1, ⟨h.gl, fun q => absurd (show (115 : Int32) = 114 from q) (by decide), h.fc⟩, ⟨fun j k q => h.me q, fun k q => (h.mo q).m htc, h.ty, h.tn⟩, ⟨rfl, by omega, ?_⟩, h.2.2.2.2⟩, ?_⟩
    · intro i hi q
      obtain rfl : i = 0 := by omega
      show FOK (Dm S.al S.th t) (updN S.to k ((S.to k).sn ((S.to k).n + 1))) S.ro S.nt (updF (updF S.fr ⟨0, h12⟩ (opF (S.fr ⟨0, h12⟩) k v9)) ⟨0, h12⟩ _ ⟨0, hi⟩) (0 + 1 = 1)
      rw [updF_s]
      refine FOK.m (D := Dm S.al S.th t) (to := S.to) (fun _ q => q) htc ?_
      refine ⟨k, a3, t3, 0, 0, rfl, hk, q1, q2, q3, q4, rfl, by omega, rfl, by omega, ⟨hv, fun k9 hk9 => ?_, fun k9 hk9 => ?_, fun k9 hk9 => absurd hk9 (Nat.not_lt_zero k9)⟩, fun _ => q5.1, fun z => absurd rfl z⟩
      · show okV _ (pU (pU (S.fr ⟨0, h12⟩).a 2 0 (bN u)) 2 1 (bN v) k9)
        rw [show pU (pU (S.fr ⟨0, h12⟩).a 2 0 (bN u)) 2 1 (bN v) = vp_updL (pU (S.fr ⟨0, h12⟩).a 2 0 (bN u)) 1 (bN v) from pU_1 (n := 2) (i := 1) (by decide) (by decide),
          show pU (S.fr ⟨0, h12⟩).a 2 0 (bN u) = vp_updL (S.fr ⟨0, h12⟩).a 0 (bN u) from pU_1 (n := 2) (i := 0) (by decide) (by decide)]
        rcases Nat.lt_or_ge k9 1 with c | c
        · obtain rfl : k9 = 0 := by omega
          rw [pk_uLn (by decide), pk_uLs]; exact okV_b
        · obtain rfl : k9 = 1 := by omega
          rw [pk_uLs]; exact okV_b
      · show okV _ (fillJ (S.fr ⟨0, h12⟩).t 502511173632 4 k9)
        unfold fillJ
        rw [if_pos (by omega)]; exact okV_u
    · show psum (updF _ ⟨0, h12⟩ _) (0 + 1) = 24
      rw [psum_u h12, fp_e (d := 0) (r := 0) rfl rfl (by omega) (by omega)]
      rfl
/-- while a run goes on -/
def Jn (S0 : Ho) (t md f n q : Nat) (d : Int32) (S : Ho) : Prop := ∃ dn t' md' f' n', d = nI dn ∧ dn ≤ q ∧ Inv S t' md' f' n' ∧ md' + t = md + t' ∧ 2 * n' + psum S.fr f' ≤ 2 * n + psum S0.fr f + 25 * dn
variable {S0 : Ho}
theorem Jn.wk (hq : 2 * n + psum S0.fr f + 25 * q < 10240) {d : Int32} (h : Jn S0 t md f n q d S) : Wk S := by
  obtain ⟨dn, t', md', f', n', _, h2, h3, _, h5⟩ := h
  exact ⟨n', by omega, h3.wc, h3.np⟩
theorem Jn.r (hq : 2 * n + psum S0.fr f + 25 * q < 10240) (hmd : md < 2 ^ 20) {d : Int32} {k : Fin 12} (hk : sX8_frameAt S (S.fn - 1) = some k) (hs : sX8_isStep S k = 0) (h : Jn S0 t md f n q d S) : Jn S0 t md f n q d (sX8_doRow S k) := by
  obtain ⟨dn, t', md', f', n', h1, h2, h3, h4, h5⟩ := h
  have ht := h3.tb.l
  obtain ⟨t2, md2, f2, n2, g1, g2, g3⟩ := row_aft h3 hk (by omega) (by omega)
  rw [if_pos hs] at g3
  exact ⟨dn, t2, md2, f2, n2, h1, h2, g1, by omega, by omega⟩
theorem Jn.s (hq : 2 * n + psum S0.fr f + 25 * q < 10240) (hq2 : q < 2 ^ 20) (hmd : md < 2 ^ 20) {d n0 : Int32} {k : Fin 12} (en : n0 = nI q) (hk : sX8_frameAt S (S.fn - 1) = some k) (hs : ¬ sX8_isStep S k = 0) (hd : ¬ d = n0) (h : Jn S0 t md f n q d S) : Jn S0 t md f n q (d + 1) (sX8_doRow S k) := by
  obtain ⟨dn, t', md', f', n', h1, h2, h3, h4, h5⟩ := h
  have ht := h3.tb.l
  have hne : dn ≠ q := fun z => hd (by rw [h1, en, z])
  obtain ⟨t2, md2, f2, n2, g1, g2, g3⟩ := row_aft h3 hk (by omega) (by omega)
  rw [if_neg hs] at g3
  exact ⟨dn + 1, t2, md2, f2, n2, by rw [h1, nI_1], by omega, g1, by omega, by omega⟩
theorem go_l (hq : 2 * n + psum S0.fr f + 25 * q < 10240) (hq2 : q < 2 ^ 20) (hmd : md < 2 ^ 20) {n0 : Int32} (en : n0 = nI q) : ∀ (fu x : Nat) (d : Int32) (S : Ho), x ≤ 1000000 → 1000001 ≤ x + fu → Jn S0 t md f n q d S → ∃ d' S', Jn S0 t md f n q d' S' ∧ LX8_go_46 n0 fu (nI x) d S = .inl (d', S'.ssp (S'.sp + d')) := by
  intro fu
  induction fu with
  | zero => intro x d S h1 h2; exact absurd h2 (by omega)
  | succ fu ih =>
    intro x d S h1 h2 h
    rw [LX8_go_46_u]
    by_cases c1 : (1000000 : Int32) ≤ nI x
    · exact ⟨d, S, h, if_pos c1⟩
    rw [if_neg c1]
    have hx : x < 1000000 := by
      rcases Nat.lt_or_ge x 1000000 with z | z
      · exact z
      · exact absurd (nI_le (a := 1000000) z (by omega)) c1
    by_cases c2 : S.st = 115
    rotate_left
    · exact ⟨d, S, h, if_neg c2⟩
    rw [if_pos c2]
    cases c3 : sX8_frameAt S (S.fn - 1) with
    | none => exact ⟨d, S, h, oc_n rfl⟩
    | some k =>
      rw [oc_s rfl]
      by_cases c4 : sX8_isStep S k = 0
      · rw [if_pos c4, nI_1]
        exact ih (x + 1) d _ (by omega) (by omega) (h.r hq hmd c3 c4)
      rw [if_neg c4]
      by_cases c5 : d = n0
      · exact ⟨d, S, h, if_pos c5⟩
      rw [if_neg c5, nI_1]
      exact ih (x + 1) (d + 1) _ (by omega) (by omega) (h.s hq hq2 hmd en c3 c4 c5)
theorem go_inv (h : Inv S t md f n) (hq : 2 * n + psum S.fr f + 25 * q < 10240) (h1 : 1 ≤ q) (h5 : q ≤ 500) (hmd : md < 2 ^ 20) : (∃ E, sX8_go S (nI q) = .inr (E, S)) ∨ ∃ d S', sX8_go S (nI q) = .inl (d, S') ∧ ∃ t' md' f' n', Inv S' t' md' f' n' ∧ md' + t = md + t' ∧ 2 * n' + psum S'.fr f' ≤ 2 * n + psum S.fr f + 25 * q := by
  unfold sX8_go
  rw [if_neg (show ¬ nI q < 1 from nI_nlt (a := q) (b := 1) h1 (by omega)), if_pos (show nI q ≤ 500 from nI_le (b := 500) h5 (by decide))]
  by_cases c : S.st = 115
  rotate_left
  · rw [if_neg c]; exact Or.inl ⟨_, rfl⟩
  rw [if_pos c]
  obtain ⟨d, S', ⟨dn, t', md', f', n', g1, g2, g3, g4, g5⟩, g6⟩ := go_l (S0 := S) (t := t) (md := md) (f := f) (n := n) hq (by omega) hmd rfl FU 0 0 S (by omega) (by rw [FU_e]; omega) ⟨0, t, md, f, n, rfl, by omega, h, rfl, by omega⟩
  refine Or.inr ⟨d, _, g6, t', md', f', n', g3, g4, ?_⟩
  show 2 * n' + psum S'.fr f' ≤ _
  omega
end CAL
