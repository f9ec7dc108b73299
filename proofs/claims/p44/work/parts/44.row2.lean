/-! what a row does to a house: the plain rows, jumps, returns -/
section ROWB
variable {S T S1 : Ho} {t md f n m k a tt r d e b : Nat} {i : Fin 12} {F F' : Fr} {v : Int64} {D : Int32 → Prop} {R : Ro} {c : Int32}
theorem vt_e (T0 : Top S t (S.fr i) k a tt r d) (hg : ∀ g, g < 8 → okV (Dm S.al S.th t) (S.gl g)) (hc : ltR (S.ro (S.to k).q) r = c) (h1 : c = 100 → 1 ≤ d) : okV (Dm S.al S.th t) (sX8_valueToPut S i c ((S.ro (S.to k).q).f r)) := by
  obtain ⟨hl, hN, hL⟩ := T0.q
  obtain ⟨p1, p2, p3, p4⟩ := T0.p
  have ha := T0.2.2.2.1
  have ht := T0.2.2.2.2.2.1
  unfold sX8_valueToPut
  by_cases c1 : c = 97
  · rw [if_pos c1]
    obtain ⟨j, hj, e⟩ := hN.1 (hc.trans c1)
    rw [e]
    have e3 : pA (S.fr i).a 2 (nI j) = (S.fr i).a j := pA_1 (n := 2) (by omega) (by decide)
    rw [e3]; exact p2 j hj
  rw [if_neg c1]
  by_cases c2 : c = 100
  · rw [if_pos c2, ft_e (j := 0) (x := 0) rfl rfl T0.d (h1 c2) T0.l]
    exact p4 _ (by have := h1 c2; omega)
  rw [if_neg c2]
  by_cases c3 : c = 103
  · rw [if_pos c3]
    exact pA_in (n := 8) (by decide) okV_u hg
  rw [if_neg c3]
  by_cases c4 : c = 110
  · rw [if_pos c4]; exact okV_n
  rw [if_neg c4]
  by_cases c5 : c = 115
  · rw [if_pos c5]; exact p1
  rw [if_neg c5]
  by_cases c6 : c = 116
  · rw [if_pos c6]
    obtain ⟨j, hj, e⟩ := hN.2.1 (Or.inl (hc.trans c6))
    rw [e]
    have e3 : pA (S.fr i).t 4 (nI j) = (S.fr i).t j := pA_1 (n := 4) (by omega) (by decide)
    rw [e3]; exact p3 j hj
  rw [if_neg c6]; exact okV_u
/-- the rows that have no fault -/
theorem wf_aft (h : Inv S t md (m + 1) n) (hm : m < 12) (hn : n < 2 ^ 30) (T0 : Top S t (S.fr ⟨m, hm⟩) k a tt r d) (hc : ltR (S.ro (S.to k).q) r = c)
    (n1 : ¬ (c = 42 ∨ c = 43 ∨ c = 45 ∨ c = 47 ∨ c = 60)) (n2 : ¬ c = 70) (n3 : ¬ (c = 77 ∨ c = 109)) (n4 : ¬ c = 99) (n5 : ¬ c = 102) (n6 : ¬ c = 106) (n7 : ¬ c = 114) (n8 : ¬ c = 121) :
    Aft S (vc (sX8_doRowWithoutFault S ⟨m, hm⟩ c ((S.ro (S.to k).q).f r)) (fun T39 => (T39.frS ⟨m, hm⟩ ((T39.fr ⟨m, hm⟩).sw (((T39.fr ⟨m, hm⟩).w) + 1))))) t md (m + 1) n b := by
  obtain ⟨hl, hN, hL⟩ := T0.q
  have hd8 := T0.l
  have hr24 := T0.r
  obtain ⟨F, hF⟩ : ∃ F9, S.fr ⟨m, hm⟩ = F9 := ⟨_, rfl⟩
  have T1 : Top S t F k a tt r d := hF ▸ T0
  have ho := T1.o
  have hw := T1.w
  have hd := T1.d
  have hp := T1.p
  unfold sX8_doRowWithoutFault
  by_cases c1 : c = 61
  · rw [if_pos c1]
    obtain ⟨g1, g2, g3, g4⟩ := Led.go (k0 := 2) (p0 := 1) hL (hc.trans c1) (by decide) (by decide) (by decide) rfl rfl (by omega) (by omega) hr24 hd8
    obtain ⟨e, rfl⟩ : ∃ e, d = e + 2 := ⟨d - 2, by omega⟩
    have p1 : sX1_pop S ⟨m, hm⟩ = (F.p (e + 1), S.frS ⟨m, hm⟩ (F.sd (nI (e + 1)))) := pop_e (d := e + 2) hF hd (by omega) hd8
    have p2 : ∀ T9 : Ho, T9.fr ⟨m, hm⟩ = F.sd (nI (e + 1)) → sX1_pop T9 ⟨m, hm⟩ = (F.p e, T9.frS ⟨m, hm⟩ (F.sd (nI e))) := fun T9 q => pop_e (F := F.sd (nI (e + 1))) (d := e + 1) q rfl (by omega) (by omega)
    have p3 : ∀ (T9 : Ho) (v9 : Int64), T9.fr ⟨m, hm⟩ = F.sd (nI e) → sX1_push T9 ⟨m, hm⟩ v9 = T9.frS ⟨m, hm⟩ ((F.sp (vp_updL F.p e v9)).sd (nI (e + 1))) := fun T9 v9 q => push_e (F := F.sd (nI e)) (d := e) q rfl (by omega)
    rw [pc_e p1, pc_e (p2 _ frS_s), frS_2]
    have fin : ∀ y : Int32, Aft S (vc (vc (sX1_push (S.frS ⟨m, hm⟩ (F.sd (nI e))) ⟨m, hm⟩ (bN y)) (fun T15 => T15)) (fun T39 => (T39.frS ⟨m, hm⟩ ((T39.fr ⟨m, hm⟩).sw (((T39.fr ⟨m, hm⟩).w) + 1))))) t md (m + 1) n b := by
      intro y
      rw [vc_e (p3 _ _ frS_s), frS_2]
      rw [vc_e rfl, frS_s, frS_2]
      refine aft_fr (r' := r + 1) (d' := e + 1) hm T0 h rfl rfl rfl rfl rfl ho ?_ g2 rfl (by omega) (hp.put okV_b (by omega)) g3 (by omega)
      show F.w + 1 = _
      rw [hw, nI_1]
    by_cases cc : lg_cmp (F.p (e + 1)) (F.p e) = 0
    · rw [if_pos cc]; exact fin 1
    · rw [if_neg cc]; exact fin 0
  rw [if_neg c1]
  by_cases c2 : c = 71
  · rw [if_pos c2]
    obtain ⟨g1, g2, g3, g4⟩ := Led.go (k0 := 1) (p0 := 0) hL (hc.trans c2) (by decide) (by decide) (by decide) rfl rfl (by omega) (by omega) hr24 hd8
    obtain ⟨e, rfl⟩ : ∃ e, d = e + 1 := ⟨d - 1, by omega⟩
    have p1 : sX1_pop S ⟨m, hm⟩ = (F.p e, S.frS ⟨m, hm⟩ (F.sd (nI e))) := pop_e (d := e + 1) hF hd (by omega) hd8
    rw [pc_e p1]
    show Aft S (((S.frS ⟨m, hm⟩ (F.sd (nI e))).sgl (pU S.gl 8 _ (F.p e))).frS ⟨m, hm⟩ (((S.frS ⟨m, hm⟩ (F.sd (nI e))).fr ⟨m, hm⟩).sw (((S.frS ⟨m, hm⟩ (F.sd (nI e))).fr ⟨m, hm⟩).w + 1))) t md (m + 1) n b
    rw [frS_s, glfr]
    refine aft_fr (r' := r + 1) (d' := e) hm T0 (h.glU (hp.2.2.2 e (by omega))) rfl rfl rfl rfl rfl ho ?_ g2 rfl (by omega) (hp.pop (by omega)) g3 (by omega)
    show F.w + 1 = _
    rw [hw, nI_1]
  rw [if_neg c2]
  by_cases c3 : c = 84
  · rw [if_pos c3]
    obtain ⟨g1, g2, g3, g4⟩ := Led.go (k0 := 1) (p0 := 0) hL (hc.trans c3) (by decide) (by decide) (by decide) rfl rfl (by omega) (by omega) hr24 hd8
    obtain ⟨e, rfl⟩ : ∃ e, d = e + 1 := ⟨d - 1, by omega⟩
    have p1 : sX1_pop S ⟨m, hm⟩ = (F.p e, S.frS ⟨m, hm⟩ (F.sd (nI e))) := pop_e (d := e + 1) hF hd (by omega) hd8
    rw [pc_e p1]
    rw [vc_e rfl, frS_s, frS_s, frS_2, frS_2]
    refine aft_fr (r' := r + 1) (d' := e) hm T0 h rfl rfl rfl rfl rfl ho ?_ g2 rfl (by omega) ⟨hp.1, hp.2.1, pU_lt (hp.2.2.2 e (by omega)) hp.2.2.1, fun k q => hp.2.2.2 k (by omega)⟩ g3 (by omega)
    show F.w + 1 = _
    rw [hw, nI_1]
  rw [if_neg c3]
  by_cases c4 : c = 107
  · rw [if_pos c4]
    obtain ⟨g1, g2, g3, g4⟩ := Led.go (k0 := 1) (p0 := 1) hL (hc.trans c4) (by decide) (by decide) (by decide) rfl rfl (by omega) (by omega) hr24 hd8
    obtain ⟨e, rfl⟩ : ∃ e, d = e + 1 := ⟨d - 1, by omega⟩
    have p1 : sX1_pop S ⟨m, hm⟩ = (F.p e, S.frS ⟨m, hm⟩ (F.sd (nI e))) := pop_e (d := e + 1) hF hd (by omega) hd8
    have p3 : ∀ (T9 : Ho) (v9 : Int64), T9.fr ⟨m, hm⟩ = F.sd (nI e) → sX1_push T9 ⟨m, hm⟩ v9 = T9.frS ⟨m, hm⟩ ((F.sp (vp_updL F.p e v9)).sd (nI (e + 1))) := fun T9 v9 q => push_e (F := F.sd (nI e)) (d := e) q rfl (by omega)
    rw [pc_e p1, vc_e (p3 _ _ frS_s), frS_2]
    rw [vc_e rfl, frS_s, frS_2]
    refine aft_fr (r' := r + 1) (d' := e + 1) hm T0 h rfl rfl rfl rfl rfl ho ?_ g2 rfl (by omega) (hp.put okV_n (by omega)) g3 (by omega)
    show F.w + 1 = _
    rw [hw, nI_1]
  rw [if_neg c4]
  by_cases c5 : c = 112
  · rw [if_pos c5]
    obtain ⟨g1, g2, g3, g4⟩ := Led.go (k0 := 1) (p0 := 0) hL (hc.trans c5) (by decide) (by decide) (by decide) rfl rfl (by omega) (by omega) hr24 hd8
    obtain ⟨e, rfl⟩ : ∃ e, d = e + 1 := ⟨d - 1, by omega⟩
    have p1 : sX1_pop S ⟨m, hm⟩ = (F.p e, S.frS ⟨m, hm⟩ (F.sd (nI e))) := pop_e (d := e + 1) hF hd (by omega) hd8
    rw [pc_e p1]
    rw [vc_e rfl, frS_s, frS_2]
    refine aft_fr (r' := r + 1) (d' := e) hm T0 h rfl rfl rfl rfl rfl ho ?_ g2 rfl (by omega) (hp.pop (by omega)) g3 (by omega)
    show F.w + 1 = _
    rw [hw, nI_1]
  rw [if_neg c5]
  by_cases c6 : c = 119
  · rw [if_pos c6]
    obtain ⟨g1, g2, g3, g4⟩ := Led.go (k0 := 1) (p0 := 0) hL (hc.trans c6) (by decide) (by decide) (by decide) rfl rfl (by omega) (by omega) hr24 hd8
    obtain ⟨e, rfl⟩ : ∃ e, d = e + 1 := ⟨d - 1, by omega⟩
    have p1 : sX1_pop S ⟨m, hm⟩ = (F.p e, S.frS ⟨m, hm⟩ (F.sd (nI e))) := pop_e (d := e + 1) hF hd (by omega) hd8
    rw [pc_e p1, enl_fr]
    rw [vc_e rfl, vc_e rfl, frS_s, frS_2]
    obtain ⟨q1, q2, q3, q4⟩ := enl_f (S := S) (v := F.p e)
    refine aft_fr (r' := r + 1) (d' := e) hm T0 (h.enl hn) q1 q2 q3 q4 rfl ho ?_ g2 rfl (by omega) ?_ g3 (by omega)
    · show F.w + 1 = _
      rw [hw, nI_1]
    · have e1 : (sX7_enlist S (F.p e)).al = S.al ∧ (sX7_enlist S (F.p e)).th = S.th := by
        unfold sX7_enlist
        by_cases c : S.np ≤ (S.wc / 512).toNatClampNeg
        · rw [if_pos c]; exact ⟨rfl, rfl⟩
        · rw [if_neg c]; exact ⟨rfl, rfl⟩
      rw [e1.1, e1.2]
      exact hp.pop (by omega)
  rw [if_neg c6]
  have h7 : c = 97 ∨ c = 100 ∨ c = 103 ∨ c = 110 ∨ c = 115 ∨ c = 116 ∨ c = 117 := by
    rw [hc] at hl
    unfold isL at hl
    simp only [not_or] at n1 n3
    rcases hl with h9 | h9 | h9 | h9 | h9 | h9 | h9 | h9 | h9 | h9 | h9 | h9 | h9 | h9 | h9 | h9 | h9 | h9 | h9 | h9 | h9 | h9 | h9 | h9 | h9 | h9 <;> simp_all
  have h8 : (c = 100 → 1 ≤ d) ∧ r + 1 < 24 ∧ (S.ro (S.to k).q).d (r + 1) = nI (d + 1) ∧ d + 1 ≤ 8 := by
    by_cases q : c = 100
    · obtain ⟨g1, g2, g3, g4⟩ := Led.go (k0 := 1) (p0 := 2) hL (hc.trans q) (by decide) (by decide) (by decide) rfl rfl (by omega) (by omega) hr24 hd8
      rw [show d - 1 + 2 = d + 1 by omega] at g3 g4
      exact ⟨fun _ => g1, g2, g3, g4⟩
    · have e1 : tkI c ((S.ro (S.to k).q).g r) = 0 ∧ ptI c = 1 := by
        rcases h7 with h9 | h9 | h9 | h9 | h9 | h9 | h9
        · subst h9; exact ⟨rfl, rfl⟩
        · exact absurd h9 q
        · subst h9; exact ⟨rfl, rfl⟩
        · subst h9; exact ⟨rfl, rfl⟩
        · subst h9; exact ⟨rfl, rfl⟩
        · subst h9; exact ⟨rfl, rfl⟩
        · subst h9; exact ⟨rfl, rfl⟩
      obtain ⟨g1, g2, g3, g4⟩ := Led.go (k0 := 0) (p0 := 1) hL hc n7 n6 n8 e1.1 e1.2 (by omega) (by omega) hr24 hd8
      exact ⟨fun z => absurd z q, g2, g3, g4⟩
  obtain ⟨g0, g2, g3, g4⟩ := h8
  have hv := vt_e T0 h.gl hc g0
  rw [vc_e (push_e (d := d) hF hd (by omega))]
  rw [vc_e rfl, frS_s, frS_2]
  refine aft_fr (r' := r + 1) (d' := d + 1) hm T0 h rfl rfl rfl rfl rfl ho ?_ g2 rfl (by omega) (hp.put hv (by omega)) g3 (by omega)
  show F.w + 1 = _
  rw [hw, nI_1]
/-- a row 'r' -/
theorem ret_aft (h : Inv S t md (m + 1) n) (hm : m < 12) (T0 : Top S t (S.fr ⟨m, hm⟩) k a tt r d) (hc : ltR (S.ro (S.to k).q) r = 114) :
    Aft S (pc (sX1_pop S ⟨m, hm⟩) (fun r26 T27 => vc (sX8_giveBack T27 r26) (fun T31 => T31))) t md (m + 1) n b := by
  obtain ⟨hl, hN, hL⟩ := T0.q
  have hd8 := T0.l
  have hd1 : 1 ≤ d := by
    obtain ⟨k0, p0, e1, hk, _⟩ := hL
    rw [hc] at e1
    have : 1 = k0 := nI_inj (by omega) (by omega) (show nI 1 = nI k0 from e1)
    omega
  obtain ⟨e, rfl⟩ : ∃ e, d = e + 1 := ⟨d - 1, by omega⟩
  obtain ⟨F, hF⟩ : ∃ F9, S.fr ⟨m, hm⟩ = F9 := ⟨_, rfl⟩
  have T1 : Top S t F k a tt r (e + 1) := hF ▸ T0
  have p1 : sX1_pop S ⟨m, hm⟩ = (F.p e, S.frS ⟨m, hm⟩ (F.sd (nI e))) := pop_e (d := e + 1) hF T1.d (by omega) hd8
  have hv := T1.p.2.2.2 e (by omega)
  rw [pc_e p1, vc_e rfl]
  unfold sX8_giveBack
  have e1 : (S.frS ⟨m, hm⟩ (F.sd (nI e))).fn - 1 = nI m := by
    show S.fn - 1 = nI m
    rw [h.fn, nI_pred]
  rw [e1]
  have hps : psum S.fr (m + 1) = psum S.fr m + (e + 1 + (24 - r)) := by
    rw [psum_t hm, fp_e T0.d T0.w T0.l T0.r]
  cases m with
  | zero =>
    rw [oc_n (frameAt_h (show isB (nI 0 - 1) 12 = 0 by decide))]
    refine ⟨t, md, 0, n, ⟨h.1, ⟨h.gl, fun _ => hv, h.fc⟩, h.2.2.1, ⟨rfl, by omega, fun i hi q => absurd q (Nat.not_lt_zero i)⟩, h.2.2.2.2⟩, rfl, ?_⟩
    show 2 * n + 0 ≤ _
    omega
  | succ m =>
    have hm2 : m < 12 := by omega
    rw [nI_pred, oc_s (frameAt_1 hm2)]
    obtain ⟨k2, a2, t2, r2, d2, g1, g2, g3, g4, g5, g6, g7, g8, g9, g10, g11, g12⟩ := h.fs m hm2 (by omega)
    obtain ⟨a3, t3, q1, q2, q3, q4, q5, q6, q7⟩ := h.mo g2
    obtain ⟨z1, nn, z2, z3, z4, z5⟩ := g12.2 (by omega)
    obtain ⟨y1, y2, k3, p3, y3, y4, y5, y6, y7⟩ := q5.2 r2 _ g8 z4 z5
    obtain ⟨w1, w2, w3⟩ : r2 + 1 < 24 ∧ (S.ro (S.to k2).q).d (r2 + 1) = nI (d2 + 1) ∧ d2 + 1 ≤ 8 := by
      have hk : tkI (ltR (S.ro (S.to k2).q) r2) ((S.ro (S.to k2).q).g r2) = nI (nn + 1) := by
        rw [z3]
        rcases z1 with z | z
        · rw [z]; exact (show tkI 77 (nI nn) = nI nn + 1 from rfl).trans (nI_1 nn)
        · rw [z]; exact (show tkI 109 (nI nn) = nI nn + 1 from rfl).trans (nI_1 nn)
      have hp : ptI (ltR (S.ro (S.to k2).q) r2) = nI 1 := by
        rcases z1 with z | z <;> rw [z] <;> rfl
      obtain ⟨x1, x2, x3, x4⟩ := Led.go (c := ltR (S.ro (S.to k2).q) r2) (k0 := nn + 1) (p0 := 1) ⟨k3, p3, y3, y4, y5, y6, y7⟩ rfl (by rcases z1 with z | z <;> rw [z] <;> decide) (by rcases z1 with z | z <;> rw [z] <;> decide) (by rcases z1 with z | z <;> rw [z] <;> decide) hk hp (by omega) (by omega) g8 z4
      rw [show d2 + nn + 1 - (nn + 1) + 1 = d2 + 1 by omega] at x3 x4
      exact ⟨x2, x3, x4⟩
    obtain ⟨F2, hF2⟩ : ∃ F9, S.fr ⟨m, hm2⟩ = F9 := ⟨_, rfl⟩
    rw [hF2] at g1 g7 g9 g11
    have e2 : ((S.frS ⟨m + 1, hm⟩ (F.sd (nI e))).sfn (nI (m + 1))).fr ⟨m, hm2⟩ = F2 := (updF_o (fun z => by have := congrArg Fin.val z; simp only at this; omega)).trans hF2
    rw [push_e (d := d2) e2 g9 (by omega), vc_e rfl, frS_s, frS_2]
    refine ⟨t, md, m + 1, n, ⟨h.1, h.2.1, h.2.2.1, ⟨rfl, by omega, ?_⟩, h.2.2.2.2⟩, rfl, ?_⟩
    · intro j hj q
      show FOK (Dm S.al S.th t) S.to S.ro S.nt (updF (updF S.fr ⟨m + 1, hm⟩ (F.sd (nI e))) ⟨m, hm2⟩ _ ⟨j, hj⟩) (j + 1 = m + 1)
      by_cases cj : j = m
      · subst cj
        rw [updF_s]
        refine ⟨k2, a2, t2, r2 + 1, d2 + 1, g1, g2, g3, g4, g5, g6, ?_, w1, rfl, w3, ?_, fun _ => w2, fun z => absurd rfl z⟩
        · show F2.w + 1 = _
          rw [g7, nI_1]
        · exact g11.put hv (Nat.le_refl _)
      · rw [updF_o (fun z => cj (congrArg Fin.val z)), updF_o (fun z => by have := congrArg Fin.val z; simp only at this; omega)]
        have hh := h.fs j hj (by omega)
        have ee : (j + 1 = m + 1) = (j + 1 = m + 1 + 1) := by
          have e1 : ¬ (j + 1 = m + 1) := by omega
          have e2 : ¬ (j + 1 = m + 1 + 1) := by omega
          rw [eq_false e1, eq_false e2]
        rw [ee]; exact hh
    · show 2 * n + psum (updF (updF S.fr ⟨m + 1, hm⟩ (F.sd (nI e))) ⟨m, hm2⟩ _) (m + 1) ≤ _
      rw [psum_u hm2, hps, psum_t hm2, hF2, fp_e g9 g7 g10 g8, psum_c m (by omega) (fun i hi q => updF_o (fun z => by have := congrArg Fin.val z; simp only at this; omega)),
        fp_e (F := ((F2.sp (vp_updL F2.p d2 (F.p e))).sd (nI (d2 + 1))).sw (((F2.sp (vp_updL F2.p d2 (F.p e))).sd (nI (d2 + 1))).w + 1)) (d := d2 + 1) (r := r2 + 1) rfl (by show F2.w + 1 = _; rw [g7, nI_1]) w3 w1]
      omega
end ROWB
