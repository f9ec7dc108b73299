/-! what a row does to a house: sends; every row; so many steps -/
section ROWC
variable {S T S1 : Ho} {t md f n m k a tt r d e b nn k1 : Nat} {i : Fin 12} {F F' : Fr} {v : Int64} {D : Int32 → Prop} {R : Ro} {c : Int32}
theorem fr4 {i j : Fin 12} (h : j ≠ i) {A B C E : Fr} : ((((T.frS i A).frS j B).frS i C).frS j E) = ((T.frS i C).frS j E) :=
  congrArg (fun z9 => T.sfr z9) (funext fun q => by
    show updF (updF (updF (updF T.fr i A) j B) i C) j E q = updF (updF T.fr i C) j E q
    by_cases q1 : q = j
    · subst q1; rw [updF_s, updF_s]
    · rw [updF_o q1, updF_o q1]
      by_cases q2 : q = i
      · subst q2; rw [updF_s, updF_s]
      · rw [updF_o q2, updF_o q2, updF_o q1, updF_o q2])
def SndL (L : Fin 12 → Fin 12 → Nat → Int32 → Ho → Ho) : Prop := ∀ (i j : Fin 12), j ≠ i → ∀ (q e fuel : Nat) (T : Ho) (F F2 : Fr), T.fr i = F → T.fr j = F2 → F.d = nI e → q + 1 ≤ e → e ≤ 8 → q ≤ 2 → q < fuel →
  ∃ A : Nat → Int64, L i j fuel (nI q - 1) T = (T.frS i (F.sd (nI (e - q - 1)))).frS j (F2.sa A) ∧ (∀ k, k < q → ∃ z, z < e ∧ A k = F.p z) ∧ ∀ k, q ≤ k → A k = F2.a k
theorem snd_l0 : SndL LX8_send_108 := by
  intro i j hij q
  induction q with
  | zero =>
    intro e fuel T F F2 hF hF2 hd h1 h8 _ hfu
    obtain ⟨fu, rfl⟩ : ∃ fu, fuel = fu + 1 := ⟨fuel - 1, by omega⟩
    have p1 : sX1_pop T i = (F.p (e - 1), T.frS i (F.sd (nI (e - 1)))) := pop_e (d := e) hF hd (by omega) h8
    refine ⟨F2.a, ?_, fun k q => absurd q (Nat.not_lt_zero k), fun k _ => rfl⟩
    rw [LX8_send_108_u, if_pos (show nI 0 - 1 < 0 by decide), pc_e p1]
    have e1 : (T.frS i (F.sd (nI (e - 1)))).fr j = F2 := (updF_o hij).trans hF2
    show T.frS i (F.sd (nI (e - 1))) = (T.frS i (F.sd (nI (e - 1)))).frS j F2
    rw [← e1]; exact frS_id.symm
  | succ q ih =>
    intro e fuel T F F2 hF hF2 hd h1 h8 h2 hfu
    obtain ⟨fu, rfl⟩ : ∃ fu, fuel = fu + 1 := ⟨fuel - 1, by omega⟩
    have p1 : sX1_pop T i = (F.p (e - 1), T.frS i (F.sd (nI (e - 1)))) := pop_e (d := e) hF hd (by omega) h8
    rw [LX8_send_108_u, nI_pred, if_neg (nI_pos (show q < 2 ^ 31 by omega)), pc_e p1]
    have e1 : (T.frS i (F.sd (nI (e - 1)))).fr j = F2 := (updF_o hij).trans hF2
    rw [vc_e rfl, e1, show nI q + (-1) = nI q - 1 from (Int32.sub_eq_add_neg _ _).symm]
    have e2 : pU F2.a 2 (nI q) (F.p (e - 1)) = vp_updL F2.a q (F.p (e - 1)) := pU_1 (n := 2) (by omega) (by decide)
    rw [e2]
    obtain ⟨A, g1, g2, g3⟩ := ih (e - 1) fu ((T.frS i (F.sd (nI (e - 1)))).frS j (F2.sa (vp_updL F2.a q (F.p (e - 1))))) (F.sd (nI (e - 1))) (F2.sa (vp_updL F2.a q (F.p (e - 1)))) ((updF_o (fun z => hij z.symm)).trans frS_s) frS_s rfl (by omega) (by omega) (by omega) (by omega)
    refine ⟨A, ?_, fun k hk => ?_, fun k hk => ?_⟩
    · rw [g1, fr4 hij, show e - 1 - q - 1 = e - (q + 1) - 1 by omega]
      rfl
    · rcases Nat.lt_or_ge k q with c | c
      · obtain ⟨z, hz, ez⟩ := g2 k c
        exact ⟨z, by omega, ez⟩
      · obtain rfl : k = q := by omega
        refine ⟨e - 1, by omega, (g3 k (Nat.le_refl _)).trans ?_⟩
        show vp_updL F2.a k (F.p (e - 1)) k = _
        exact pk_uLs
    · refine (g3 k (by omega)).trans ?_
      show vp_updL F2.a q (F.p (e - 1)) k = _
      exact pk_uLn (by omega)
theorem snd_l1 : SndL LX8_send_108_1 := by
  intro i j hij q
  induction q with
  | zero =>
    intro e fuel T F F2 hF hF2 hd h1 h8 _ hfu
    obtain ⟨fu, rfl⟩ : ∃ fu, fuel = fu + 1 := ⟨fuel - 1, by omega⟩
    have p1 : sX1_pop T i = (F.p (e - 1), T.frS i (F.sd (nI (e - 1)))) := pop_e (d := e) hF hd (by omega) h8
    refine ⟨F2.a, ?_, fun k q => absurd q (Nat.not_lt_zero k), fun k _ => rfl⟩
    rw [LX8_send_108_1_u, if_pos (show nI 0 - 1 < 0 by decide), pc_e p1]
    have e1 : (T.frS i (F.sd (nI (e - 1)))).fr j = F2 := (updF_o hij).trans hF2
    show T.frS i (F.sd (nI (e - 1))) = (T.frS i (F.sd (nI (e - 1)))).frS j F2
    rw [← e1]; exact frS_id.symm
  | succ q ih =>
    intro e fuel T F F2 hF hF2 hd h1 h8 h2 hfu
    obtain ⟨fu, rfl⟩ : ∃ fu, fuel = fu + 1 := ⟨fuel - 1, by omega⟩
    have p1 : sX1_pop T i = (F.p (e - 1), T.frS i (F.sd (nI (e - 1)))) := pop_e (d := e) hF hd (by omega) h8
    rw [LX8_send_108_1_u, nI_pred, if_neg (nI_pos (show q < 2 ^ 31 by omega)), pc_e p1]
    have e1 : (T.frS i (F.sd (nI (e - 1)))).fr j = F2 := (updF_o hij).trans hF2
    rw [vc_e rfl, e1, show nI q + (-1) = nI q - 1 from (Int32.sub_eq_add_neg _ _).symm]
    have e2 : pU F2.a 2 (nI q) (F.p (e - 1)) = vp_updL F2.a q (F.p (e - 1)) := pU_1 (n := 2) (by omega) (by decide)
    rw [e2]
    obtain ⟨A, g1, g2, g3⟩ := ih (e - 1) fu ((T.frS i (F.sd (nI (e - 1)))).frS j (F2.sa (vp_updL F2.a q (F.p (e - 1))))) (F.sd (nI (e - 1))) (F2.sa (vp_updL F2.a q (F.p (e - 1)))) ((updF_o (fun z => hij z.symm)).trans frS_s) frS_s rfl (by omega) (by omega) (by omega) (by omega)
    refine ⟨A, ?_, fun k hk => ?_, fun k hk => ?_⟩
    · rw [g1, fr4 hij, show e - 1 - q - 1 = e - (q + 1) - 1 by omega]
      rfl
    · rcases Nat.lt_or_ge k q with c | c
      · obtain ⟨z, hz, ez⟩ := g2 k c
        exact ⟨z, by omega, ez⟩
      · obtain rfl : k = q := by omega
        refine ⟨e - 1, by omega, (g3 k (Nat.le_refl _)).trans ?_⟩
        show vp_updL F2.a k (F.p (e - 1)) k = _
        exact pk_uLs
    · refine (g3 k (by omega)).trans ?_
      show vp_updL F2.a q (F.p (e - 1)) k = _
      exact pk_uLn (by omega)
theorem lk_lt {i j : Int32} (hme : ∀ j k, S.me j = some k → k < S.nt) (h : sX8_lookUp S i j = some k) : k < S.nt := by
  have ma : ∀ (i j : Int32) (k : Nat), sX8_methodAt S i j = some k → k < S.nt := by
    intro i j k h
    unfold sX8_methodAt at h
    split at h
    · cases h
    · split at h
      · cases h
      · exact hme _ _ h
  have key : ∀ (n : Nat) (x1 a1 : Int32), LX8_lookUp_5 j n x1 a1 S = some k → k < S.nt := by
    intro n
    induction n with
    | zero => intro x1 a1 h; cases h
    | succ n ih =>
      intro x1 a1 h
      rw [LX8_lookUp_5_u] at h
      split at h
      · cases h
      split at h
      · cases h
      cases hm : sX8_methodAt S a1 j with
      | none => rw [oc_n hm] at h; exact ih _ _ h
      | some k2 => rw [oc_s hm] at h; cases h; exact ma _ _ _ hm
  exact key _ _ _ h
def opF (F : Fr) (k : Nat) (v : Int64) : Fr := (((((F.so (some k)).sv v).sw 0).sd 0).st (fillJ F.t 502511173632 4))
def opS (S : Ho) (f : Fin 12) (k : Nat) (v : Int64) : Ho := ((S.frS f (opF (S.fr f) k v)).sfn (S.fn + 1)).toS k ((S.to k).sn ((S.to k).n + 1))
theorem opn_e {f : Nat} (hf : f < 12) (hn : S.fn = nI f) : sX8_openFrame S k v = (some ⟨f, hf⟩, opS S ⟨f, hf⟩ k v) := by
  have e1 : sX8_frameAt S S.fn = some ⟨f, hf⟩ := by rw [hn]; exact frameAt_1 hf
  unfold sX8_openFrame
  rw [oc_s e1]
  rfl
theorem snd_tail {L : Fin 12 → Fin 12 → Nat → Int32 → Ho → Ho} (hL : SndL L) (h : Inv S t md (m + 1) n) (hm : m < 12) (T0 : Top S t (S.fr ⟨m, hm⟩) k a tt r d) (hc : ltR (S.ro (S.to k).q) r = 77 ∨ ltR (S.ro (S.to k).q) r = 109)
    (hg : (S.ro (S.to k).q).g r = nI nn) (hn3 : nn < 3) (hnd : nn + 1 ≤ d) (hv : okV (Dm S.al S.th t) v) (hk1 : k1 < S.nt) :
    Aft S (if (S.to k1).a = nI nn then (if S.fn < 12 then (pc (sX8_openFrame S k1 v) (fun r10 T7 => oc (r10) (T7) (fun k18 => L ⟨m, hm⟩ k18 (FU + 1) (nI nn - 1) T7))) else (vc (sX8_fault S 100) (fun T45 => T45))) else (vc (sX8_fault S 117) (fun T50 => T50))) t md (m + 1) n 25 := by
  have hd8 := T0.l
  by_cases c1 : (S.to k1).a = nI nn
  rotate_left
  · rw [if_neg c1]; exact aft_id h.fault rfl
  rw [if_pos c1]
  by_cases c2 : S.fn < 12
  rotate_left
  · rw [if_neg c2]; exact aft_id h.fault rfl
  rw [if_pos c2]
  have hm2 : m + 1 < 12 := by
    rw [h.fn] at c2
    rcases Nat.lt_or_ge (m + 1) 12 with q | q
    · exact q
    · exact absurd c2 (nI_nlt (a := m + 1) (b := 12) q (by have := h.f12; omega))
  rw [pc_e (opn_e hm2 h.fn), oc_s rfl]
  have hij : (⟨m + 1, hm2⟩ : Fin 12) ≠ ⟨m, hm⟩ := fun z => by have := congrArg Fin.val z; simp only at this; omega
  obtain ⟨F, hF⟩ : ∃ F9, S.fr ⟨m, hm⟩ = F9 := ⟨_, rfl⟩
  have T1 : Top S t F k a tt r d := hF ▸ T0
  have hf1 : (opS S ⟨m + 1, hm2⟩ k1 v).fr ⟨m, hm⟩ = F := (updF_o (fun z => hij z.symm)).trans hF
  have hf2 : (opS S ⟨m + 1, hm2⟩ k1 v).fr ⟨m + 1, hm2⟩ = opF (S.fr ⟨m + 1, hm2⟩) k1 v := updF_s
  obtain ⟨A, g1, g2, g3⟩ := hL ⟨m, hm⟩ ⟨m + 1, hm2⟩ hij nn d (FU + 1) (opS S ⟨m + 1, hm2⟩ k1 v) F _ hf1 hf2 T1.d hnd hd8 (by omega) (by rw [FU_e]; omega)
  rw [g1]
  obtain ⟨a3, t3, q1, q2, q3, q4, q5, q6, q7⟩ := h.mo hk1
  have ea : a3 = nn := nI_inj (by omega) (by omega) (q1.symm.trans c1)
  subst ea
  have htc := to_c (S := S) (k := k1) (y := (S.to k1).n + 1)
  refine ⟨t, md, m + 1 + 1, n, ⟨h.1, h.2.1, ⟨fun j k q => h.me q, fun k q => (h.mo q).m htc, h.ty, h.tn⟩, ⟨?_, by omega, ?_⟩, h.2.2.2.2⟩, rfl, ?_⟩
  · show S.fn + 1 = _
    rw [h.fn, nI_1]
  · intro j hj q
    show FOK (Dm S.al S.th t) (updN S.to k1 ((S.to k1).sn ((S.to k1).n + 1))) S.ro S.nt (updF (updF (updF S.fr ⟨m + 1, hm2⟩ (opF (S.fr ⟨m + 1, hm2⟩) k1 v)) ⟨m, hm⟩ (F.sd (nI (d - a3 - 1)))) ⟨m + 1, hm2⟩ ((opF (S.fr ⟨m + 1, hm2⟩) k1 v).sa A) ⟨j, hj⟩) (j + 1 = m + 1 + 1)
    refine FOK.m (D := Dm S.al S.th t) (to := S.to) (fun _ q => q) htc ?_
    by_cases c3 : j = m + 1
    · subst c3
      rw [updF_s]
      refine ⟨k1, a3, t3, 0, 0, rfl, hk1, q1, q2, q3, q4, rfl, by omega, rfl, by omega, ⟨hv, fun k hk => ?_, fun k hk => ?_, fun k hk => absurd hk (Nat.not_lt_zero k)⟩, fun _ => q5.1, fun z => absurd rfl z⟩
      · obtain ⟨z, hz, ez⟩ := g2 k hk
        show okV _ (A k)
        rw [ez]; exact T1.p.2.2.2 z hz
      · show okV _ (fillJ (S.fr ⟨m + 1, hm2⟩).t 502511173632 4 k)
        unfold fillJ
        rw [if_pos (by omega)]; exact okV_u
    · rw [updF_o (fun z => c3 (congrArg Fin.val z))]
      by_cases c4 : j = m
      · subst c4
        rw [updF_s]
        refine ⟨k, a, tt, r, d - a3 - 1, T1.o, T1.2.1, T1.2.2.1, T1.2.2.2.1, T1.2.2.2.2.1, T1.2.2.2.2.2.1, T1.w, T1.r, rfl, by omega, ⟨T1.p.1, T1.p.2.1, T1.p.2.2.1, fun k q => T1.p.2.2.2 k (by omega)⟩, fun z => absurd z (by omega), fun _ => ⟨hc, a3, by omega, hg, by omega, ?_⟩⟩
        rw [show d - a3 - 1 + a3 + 1 = d by omega]; exact T1.s
      · rw [updF_o (fun z => c4 (congrArg Fin.val z)), updF_o (fun z => c3 (congrArg Fin.val z))]
        have hh := h.fs j hj (by omega)
        have ee : (j + 1 = m + 1 + 1) = (j + 1 = m + 1) := by
          have e1 : ¬ (j + 1 = m + 1) := by omega
          have e2 : ¬ (j + 1 = m + 1 + 1) := by omega
          rw [eq_false e1, eq_false e2]
        rw [ee]; exact hh
  · show 2 * n + psum (updF (updF (updF S.fr ⟨m + 1, hm2⟩ (opF (S.fr ⟨m + 1, hm2⟩) k1 v)) ⟨m, hm⟩ (F.sd (nI (d - a3 - 1)))) ⟨m + 1, hm2⟩ ((opF (S.fr ⟨m + 1, hm2⟩) k1 v).sa A)) (m + 1 + 1) ≤ _
    rw [psum_u hm2, psum_u hm, psum_c m (by omega) (fun i hi q => updF_o (fun z => by have := congrArg Fin.val z; simp only at this; omega)), psum_t hm, hF, fp_e T1.d T1.w hd8 T1.r,
      fp_e (F := F.sd (nI (d - a3 - 1))) (d := d - a3 - 1) (r := r) rfl T1.w (by omega) T1.r, fp_e (F := (opF (S.fr ⟨m + 1, hm2⟩) k1 v).sa A) (d := 0) (r := 0) rfl rfl (by omega) (by omega)]
    omega
theorem snd_aft (h : Inv S t md (m + 1) n) (hm : m < 12) (T0 : Top S t (S.fr ⟨m, hm⟩) k a tt r d) (hc : ltR (S.ro (S.to k).q) r = c) (hcc : c = 77 ∨ c = 109) {j : Int32} :
    Aft S (sX8_send S ⟨m, hm⟩ c j ((S.ro (S.to k).q).g r)) t md (m + 1) n 25 := by
  obtain ⟨hl, hN, hL⟩ := T0.q
  obtain ⟨nn, hn3, hg⟩ := hN.2.2 (by rw [hc]; exact hcc)
  have hd8 := T0.l
  have hnd : nn + 1 ≤ d := by
    obtain ⟨k0, p0, e1, hk, _⟩ := hL
    rw [hc, hg] at e1
    have e2 : nI (nn + 1) = nI k0 := by
      rw [← e1, ← nI_1]
      rcases hcc with z | z <;> rw [z] <;> rfl
    have := nI_inj (by omega) (by omega) e2
    omega
  have hv : okV (Dm S.al S.th t) (sX1_fromTop S ⟨m, hm⟩ (nI nn)) := by
    rw [ft_e (j := nn) rfl rfl T0.d (by omega) hd8]
    exact T0.p.2.2.2 _ (by omega)
  rw [hg]
  unfold sX8_send
  by_cases c7 : c = 77
  · rw [if_pos c7]
    cases hq : sX8_lookUp S (aA S.ab (-1) (sX1_cls S ⟨m, hm⟩)) j with
    | none => rw [oc_n rfl]; exact aft_id h.fault rfl
    | some k1 => rw [oc_s rfl]; exact snd_tail snd_l1 h hm T0 (by rw [hc]; exact hcc) hg hn3 hnd hv (lk_lt (fun j k q => h.me q) hq)
  · rw [if_neg c7]
    cases hq : sX8_lookUp S (sX5_classOfValue S (sX1_fromTop S ⟨m, hm⟩ (nI nn))) j with
    | none => rw [oc_n rfl]; exact aft_id h.fault rfl
    | some k1 => rw [oc_s rfl]; exact snd_tail snd_l0 h hm T0 (by rw [hc]; exact hcc) hg hn3 hnd hv (lk_lt (fun j k q => h.me q) hq)
/-- every row -/
theorem row_aft (h : Inv S t md f n) (q : sX8_frameAt S (S.fn - 1) = some i) (hn : n < 2 ^ 30) (hmd : md < 2 ^ 30) : Aft S (sX8_doRow S i) t md f n (if sX8_isStep S i = 0 then 0 else 25) := by
  obtain ⟨m, hm, rfl, rfl⟩ := top_i h q
  obtain ⟨k, a, tt, r, d, T0⟩ := h.top hm
  have e1 := lt_e T0.o T0.w T0.r
  have e2 := fi_e T0.o T0.w T0.r
  have e3 := se_e T0.o T0.w T0.r
  obtain ⟨hl, hN, hL⟩ := T0.q
  have hd8 := T0.l
  have hr24 := T0.r
  obtain ⟨c, hc⟩ : ∃ c, ltR (S.ro (S.to k).q) r = c := ⟨_, rfl⟩
  obtain ⟨F, hF⟩ : ∃ F9, S.fr ⟨m, hm⟩ = F9 := ⟨_, rfl⟩
  have T1 : Top S t F k a tt r d := hF ▸ T0
  have hp := T1.p
  have hs : sX8_isStep S ⟨m, hm⟩ = (if c = 77 ∨ c = 109 then (1) else (if c = 106 then (if nI r < (S.ro (S.to k).q).f r then (0) else (1)) else (if c = 121 then (if nI r < (S.ro (S.to k).q).f r then (0) else (if sX8_isGoingThere S (sX1_fromTop S ⟨m, hm⟩ 0) = 0 then (0) else (1))) else (0)))) := by
    unfold sX8_isStep
    rw [e1, e2, hc, T0.w]
  unfold sX8_doRow
  rw [e1, e2, e3, hc]
  by_cases c1 : c = 42 ∨ c = 43 ∨ c = 45 ∨ c = 47 ∨ c = 60
  · rw [if_pos c1]
    have ek : tkI c ((S.ro (S.to k).q).g r) = nI 2 ∧ ptI c = nI 1 ∧ ¬ c = 114 ∧ ¬ c = 106 ∧ ¬ c = 121 := by
      rcases c1 with z | z | z | z | z <;> subst z <;> exact ⟨rfl, rfl, by decide, by decide, by decide⟩
    obtain ⟨g1, g2, g3, g4⟩ := Led.go hL hc ek.2.2.1 ek.2.2.2.1 ek.2.2.2.2 ek.1 ek.2.1 (by omega) (by omega) hr24 hd8
    obtain ⟨e, rfl⟩ : ∃ e, d = e + 2 := ⟨d - 2, by omega⟩
    rcases rk_e (c := c) hF T1.d hd8 T1.w with ⟨x, ex⟩ | ⟨y, ey⟩
    · unfold vc; rw [ex]; exact aft_id h.fault rfl
    · unfold vc; rw [ey]
      exact aft_fr (r' := r + 1) (d' := e + 1) hm T0 h rfl rfl rfl rfl rfl T1.o rfl g2 rfl (by omega) (hp.put okV_b (by omega)) g3 (by omega)
  rw [if_neg c1]
  by_cases c2 : c = 70
  · rw [if_pos c2]
    obtain ⟨g1, g2, g3, g4⟩ := Led.go (k0 := 1) (p0 := 0) hL (hc.trans c2) (by decide) (by decide) (by decide) rfl rfl (by omega) (by omega) hr24 hd8
    obtain ⟨e, rfl⟩ : ∃ e, d = e + 1 := ⟨d - 1, by omega⟩
    rcases tf_e (j := (S.ro (S.to k).q).f r) h hF T1.d hd8 T1.w with ⟨x, ex⟩ | ⟨q9, ey⟩
    · unfold vc; rw [ex]; exact aft_id h.fault rfl
    · unfold vc; rw [ey]
      have h2 := h.thU (q := q9) (j := (S.ro (S.to k).q).f r) (hp.2.2.2 e (by omega))
      have eD : Dm (S.thS q9 ((S.th q9).sp (pU (S.th q9).p 8 ((S.ro (S.to k).q).f r) (F.p e)))).al (S.thS q9 ((S.th q9).sp (pU (S.th q9).p 8 ((S.ro (S.to k).q).f r) (F.p e)))).th t = Dm S.al S.th t := Dm_e (fun k9 => by
        show (updF S.th q9 _ k9).n = _
        by_cases cq : k9 = q9
        · subst cq; rw [updF_s]; rfl
        · rw [updF_o cq])
      exact aft_fr (r' := r + 1) (d' := e) hm T0 h2 rfl rfl rfl rfl rfl T1.o rfl g2 rfl (by omega) (by rw [eD]; exact hp.pop (by omega)) g3 (by omega)
  rw [if_neg c2]
  by_cases c3 : c = 77 ∨ c = 109
  · rw [if_pos c3, hs, if_pos c3]
    exact snd_aft h hm T0 hc c3
  rw [if_neg c3]
  by_cases c4 : c = 99
  · rw [if_pos c4]
    obtain ⟨g1, g2, g3, g4⟩ := Led.go (k0 := 0) (p0 := 1) hL (hc.trans c4) (by decide) (by decide) (by decide) rfl rfl (by omega) (by omega) hr24 hd8
    rcases mt_e (c := (S.ro (S.to k).q).f r) h hF T1.d (by omega) T1.w with ⟨x, ex⟩ | ⟨ht, z, hz, ey⟩
    · unfold vc; rw [ex]; exact aft_id h.fault rfl
    · unfold vc; rw [ey]
      exact aft_fr (r' := r + 1) (d' := d + 1) hm T0 (h.enU ht hmd hz) rfl rfl rfl rfl (by omega) T1.o rfl g2 rfl (by omega) ((hp.m (en_D h.tb ht)).put (okV_mk h.tb) (by omega)) g3 (by omega)
  rw [if_neg c4]
  by_cases c5 : c = 102
  · rw [if_pos c5]
    obtain ⟨g1, g2, g3, g4⟩ := Led.go (k0 := 0) (p0 := 1) hL (hc.trans c5) (by decide) (by decide) (by decide) rfl rfl (by omega) (by omega) hr24 hd8
    rcases pf_e (j := (S.ro (S.to k).q).f r) h hF T1.d (by omega) T1.w with ⟨x, ex⟩ | ⟨y, hy, ey⟩
    · unfold vc; rw [ex]; exact aft_id h.fault rfl
    · unfold vc; rw [ey]
      exact aft_fr (r' := r + 1) (d' := d + 1) hm T0 h rfl rfl rfl rfl rfl T1.o rfl g2 rfl (by omega) (hp.put hy (by omega)) g3 (by omega)
  rw [if_neg c5]
  by_cases c6 : c = 106
  · rw [if_pos c6, hs, if_neg c3, if_pos c6, hF]
    obtain ⟨k0, p0, y1, y2, y3, y4, y5⟩ := hL
    rw [hc, c6] at y1 y3 y5
    have ek : 0 = k0 := nI_inj (by omega) (by omega) (show nI 0 = nI k0 from y1)
    have ep : 0 = p0 := nI_inj (by omega) (by omega) (show nI 0 = nI p0 from y3)
    subst ek ep
    rcases y5 with z | ⟨_, z⟩ | ⟨z, _⟩ | ⟨_, z, _⟩
    · exact absurd z (by decide)
    · obtain ⟨j, hj, ej, ed, e8⟩ := z
      rw [ej]
      refine aft_fr (r' := j) (d' := d) hm T0 h rfl rfl rfl rfl rfl T1.o rfl hj T1.d hd8 hp ed ?_
      by_cases cj : nI r < nI j
      · rw [if_pos cj, if_pos rfl]
        have := (nI_ltI (by omega) (by omega)).mp cj
        omega
      · rw [if_neg cj, if_neg (by decide)]
        omega
    · exact absurd z (by decide)
    · exact absurd rfl z
  rw [if_neg c6]
  by_cases c7 : c = 114
  · rw [if_pos c7]
    exact ret_aft h hm T0 (hc.trans c7)
  rw [if_neg c7]
  by_cases c8 : c = 121
  · rw [if_pos c8, hs, if_neg c3, if_neg c6, if_pos c8]
    obtain ⟨k0, p0, y1, y2, y3, y4, y5⟩ := hL
    rw [hc, c8] at y1 y3 y5
    have ek : 1 = k0 := nI_inj (by omega) (by omega) (show nI 1 = nI k0 from y1)
    have ep : 0 = p0 := nI_inj (by omega) (by omega) (show nI 0 = nI p0 from y3)
    subst ek ep
    rcases y5 with z | ⟨z, _⟩ | ⟨_, z1, z2⟩ | ⟨_, _, z, _⟩
    · exact absurd z (by decide)
    · exact absurd z (by decide)
    · obtain ⟨e, rfl⟩ : ∃ e, d = e + 1 := ⟨d - 1, by omega⟩
      obtain ⟨j, hj, ej, ed, e8⟩ := z1
      obtain ⟨j2, hj2, ej2, ed2, e82⟩ := z2
      have : r + 1 = j2 := nI_inj (by omega) (by omega) ej2
      subst this
      unfold vc sX8_goThereIfNotZero
      by_cases cn : isN (sX1_fromTop S ⟨m, hm⟩ 0) = 0
      · rw [if_pos cn]; exact aft_id h.fault rfl
      · rw [if_neg cn]
        have p1 : sX1_pop S ⟨m, hm⟩ = (F.p e, S.frS ⟨m, hm⟩ (F.sd (nI e))) := pop_e (d := e + 1) hF T1.d (by omega) hd8
        rw [pc_e p1, ej, frS_s, frS_2, frS_2]
        by_cases cz : nf (sX1_fromTop S ⟨m, hm⟩ 0) = 0
        · rw [if_pos cz]
          refine aft_fr (r' := r + 1) (d' := e) hm T0 h rfl rfl rfl rfl rfl T1.o ?_ hj2 rfl (by omega) (hp.pop (by omega)) ed2 (by omega)
          show F.w + 1 = _
          rw [T1.w, nI_1]
        · rw [if_neg cz]
          refine aft_fr (r' := j) (d' := e) hm T0 h rfl rfl rfl rfl rfl T1.o rfl hj rfl (by omega) (hp.pop (by omega)) ed ?_
          by_cases cj : nI r < nI j
          · rw [if_pos cj, if_pos rfl]
            have := (nI_ltI (by omega) (by omega)).mp cj
            omega
          · have eg : sX8_isGoingThere S (sX1_fromTop S ⟨m, hm⟩ 0) = 1 := by
              unfold sX8_isGoingThere
              rw [if_neg cn, if_neg cz]
            rw [if_neg cj, eg, if_neg (by decide)]
            omega
    · exact absurd rfl z
  rw [if_neg c8]
  exact wf_aft h hm hn T0 hc c1 c2 c3 c4 c5 c6 c7 c8
end ROWC
