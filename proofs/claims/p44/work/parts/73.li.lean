/-! what the law may rely on of a house: things made, what may yet be written -/
section LIN
variable {Z S T : Ho} {t md f n A B : Nat} {κ : Nat → Nat} {ar : Nat → ClassId} {G G1 : gW} {x x1 x2 y : Xo}
def LI (Z : Ho) (A B : Nat) : Prop := ∃ t md f n, Inv Z t md f n ∧ md ≤ t + A ∧ 2 * n + psum Z.fr f ≤ B
theorem LI.sm {Z' : Ho} (h : LI Z A B) (q : ∀ t md f n, Inv Z t md f n → Sm Z Z' t md f n) : LI Z' A B := by
  obtain ⟨t, md, f, n, h1, h2, h3⟩ := h
  obtain ⟨g1, g2⟩ := q t md f n h1
  exact ⟨t, md, f, n, g1, h2, by rw [g2]; exact h3⟩
theorem LI.up {A' B' : Nat} (h : LI Z A B) (hA : A ≤ A') (hB : B ≤ B') : LI Z A' B' := by
  obtain ⟨t, md, f, n, h1, h2, h3⟩ := h
  exact ⟨t, md, f, n, h1, by omega, by omega⟩
theorem li_e {p : Int64 × Ho} {r : Int64} (h : LI p.2 A B) (e : p = (r, T)) : LI T A B := by
  rw [e] at h
  exact h
theorem li_row (h : LI Z A B) {c u v : Int32} : LI (sL_row Z c u v).2 A B := h.sm (fun t md f n q => row_inv q)
theorem li_wipe (h : LI Z A B) : LI (sL_wipe Z).2 A B := h.sm (fun t md f n q => wipe_inv q)
theorem li_ty : ∀ (L : List Tk) (Z : Ho), LI Z A B → LI (L.foldl tyR Z) A B
  | [], _, h => h
  | t :: L, Z, h => li_ty L (tyR Z t) (li_row h)
theorem li_tyS {L : List Tk} (h : LI Z A B) : LI (tyS Z L) A B := li_ty L _ (li_wipe h)
theorem li_tlS {j : Nat} (h : LI Z A B) : LI (tlS Z j) A B := (li_tyS h).sm (fun t md f n q => method_inv q)
theorem li_remove (h : LI Z A B) {i j : Int32} : LI (sL_remove Z i j).2 A B := h.sm (fun t md f n q => remove_inv q)
theorem li_make (h : LI Z A B) (hA : A ≤ 4000) {g c : Int32} : LI (sL_make Z g c).2 A B := by
  obtain ⟨t, md, f, n, h1, h2, h3⟩ := h
  have ht := h1.tb.l
  obtain ⟨t', md', g1, g2, g3⟩ := make_inv h1 (by omega) (g := g) (x := c)
  exact ⟨t', md', f, n, g2, by omega, by show 2 * n + psum (rsS (sX8_make Z g c)).fr f ≤ B; rw [g3]; exact h3⟩
theorem li_globals (h : LI Z A B) (hA : A ≤ 4000) {v : Int32} : LI (sL_globals Z v) A B := by
  unfold sL_globals
  by_cases c1 : (v / 4) - (v / 4) / 4 * 4 = 0
  · rw [if_pos c1]
    exact h.sm (fun t md f n q => number_inv q)
  rw [if_neg c1]
  by_cases c2 : (v / 4) - (v / 4) / 4 * 4 = 1
  · rw [if_pos c2]
    exact h.sm (fun t md f n q => nothing_inv q)
  rw [if_neg c2]
  exact li_make h hA
theorem li_end (h : LI Z A B) : LI (sL_end Z).2 A B := by
  obtain ⟨t, md, f, n, h1, h2, h3⟩ := h
  obtain ⟨f', g1, g2⟩ := end_inv h1
  exact ⟨t, md, f', n, g1, h2, by show 2 * n + psum (rsS (sX8_end Z)).fr f' ≤ B; omega⟩
theorem li_begin (h : LI Z A B) {g s n0 u v : Int32} : LI (sL_begin Z g s n0 u v).2 A (B + 24) := by
  obtain ⟨t, md, f, n, h1, h2, h3⟩ := h
  show LI (rsS (sX8_begin Z g s n0 u v)) A (B + 24)
  rcases begin_inv h1 (g := g) (s := s) (n0 := n0) (u := u) (v := v) with ⟨E, e⟩ | ⟨c, S', e, g1, g2⟩
  · rw [e]; exact ⟨t, md, f, n, h1, h2, by show 2 * n + psum Z.fr f ≤ _; omega⟩
  · rw [e]; exact ⟨t, md, 1, n, g1, h2, by show 2 * n + psum S'.fr 1 ≤ _; rw [g2]; omega⟩
theorem li_go {q : Nat} (h : LI Z A B) (hB : B + 25 * q < 10240) (h1 : 1 ≤ q) (h5 : q ≤ 500) (hA : A ≤ 4000) : LI (sL_go Z (nI q)).2 A (B + 25 * q) := by
  obtain ⟨t, md, f, n, g1, g2, g3⟩ := h
  have ht := g1.tb.l
  show LI (rsS (sX8_go Z (nI q))) A (B + 25 * q)
  rcases go_inv g1 (by omega) h1 h5 (by omega) with ⟨E, e⟩ | ⟨d, S', e, t', md', f', n', k1, k2, k3⟩
  · rw [e]; exact ⟨t, md, f, n, g1, g2, by show 2 * n + psum Z.fr f ≤ _; omega⟩
  · rw [e]; exact ⟨t', md', f', n', k1, by omega, by show 2 * n' + psum S'.fr f' ≤ _; omega⟩
theorem xi_go {q : Nat} (h : Inv S t md f n) (hq : 2 * n + psum S.fr f + 25 * q < 10240) (h1 : 1 ≤ q) (h5 : q ≤ 500) (hmd : md < 2 ^ 20) {E : String} (e : sX8_go S (nI q) = .inr (E, T)) : E = "java/lang/IllegalArgumentException" ∨ E = "java/lang/IllegalStateException" := by
  unfold sX8_go at e
  rw [if_neg (show ¬ nI q < 1 from nI_nlt (a := q) (b := 1) h1 (by omega)), if_pos (show nI q ≤ 500 from nI_le (b := 500) h5 (by decide))] at e
  by_cases c : S.st = 115
  · rw [if_pos c] at e
    obtain ⟨d, S', -, g6⟩ := go_l (S0 := S) (t := t) (md := md) (f := f) (n := n) hq (by omega) hmd rfl FU 0 0 S (by omega) (by rw [FU_e]; omega) ⟨0, t, md, f, n, rfl, by omega, h, rfl, by omega⟩
    have e2 : LX8_go_46 (nI q) FU 0 0 S = .inl (d, S'.ssp (S'.sp + d)) := g6
    rw [e2] at e
    cases e
  · rw [if_neg c] at e
    cases e
    exact Or.inr rfl
theorem li_sound (h : LI Z A B) : sL_isSound Z = 1 := by
  obtain ⟨t, md, f, n, h1, -, -⟩ := h
  unfold sL_isSound
  rw [sound_1 h1]
  rfl
theorem li_col (hI : Inv Z t md f n) (hmd : md ≤ 4000) {h : Nat → Int32} (hh : ∀ m, m < 4000 → (¬ h m = 0 ↔ RN Z t f (nI m))) {r : Int64} (e : sL_collect Z = (r, T)) :
    r = sL_things Z - lN (cnt h 4000) ∧ sL_things T = lN (cnt h 4000) ∧ ∀ A B, md ≤ t + A → 2 * n + psum Z.fr f ≤ B → LI T (A + 60) B := by
  have ht := hI.tb.l
  obtain ⟨c, S', e1, hc, hI', hfr, g, g1, g2, g3⟩ := collect_inv hI (by omega)
  have e2 : sL_collect Z = ((nI (t - c)).toInt64, S') := by
    unfold sL_collect pc
    rw [e1]
  have e3 := e2.symm.trans e
  obtain ⟨rfl, rfl⟩ : r = (nI (t - c)).toInt64 ∧ T = S' := ⟨(congrArg Prod.fst e3).symm, (congrArg Prod.snd e3).symm⟩
  have hcn : cnt h 4000 = c := cnt_eq c g h (fun j hj => ⟨by have := (g1 j hj).1; omega, (hh _ (by have := (g1 j hj).1; omega)).mpr (g1 j hj).2⟩) g2 (fun m hm q => by
    obtain ⟨j, hj, ej⟩ := g3 (nI m) ((hh m hm).mp q)
    exact ⟨j, hj, nI_inj (by omega) (by have := (g1 j hj).1; omega) ej⟩)
  rw [hcn]
  have eZ : sL_things Z = lN t := by
    show Z.tc.toInt64 = lN t
    rw [hI.tb.t, nI_l (by omega)]
  have eT : sL_things T = lN c := by
    show T.tc.toInt64 = lN c
    rw [hI'.tb.t, nI_l (by omega)]
  refine ⟨?_, eT, fun A B hA hB => ⟨c, md, f, n, hI', by omega, by rw [hfr]; exact hB⟩⟩
  rw [eZ, nI_l (by omega), lN_sub hc]
/-! classes told -/
theorem inv_cl {a g : Nat → Int32} {c : Int32} (h : Inv S t md f n) (hf : ∀ i, i < 12 → ∃ z, z ≤ 8 ∧ g i = nI z) : Inv (((S.sab a).sfc g).scn c) t md f n := ⟨h.1, ⟨h.2.1.1, h.2.1.2.1, hf⟩, h.2.2⟩
theorem aA_ok {g : Nat → Int32} (hf : ∀ i, i < 12 → ∃ z, z ≤ 8 ∧ g i = nI z) (a : Int32) : ∃ z, z ≤ 8 ∧ aA g 0 a = nI z := by
  unfold aA
  by_cases c : isB a 12 = 0
  · rw [if_pos c]; exact ⟨0, by decide, rfl⟩
  · rw [if_neg c]
    obtain ⟨j, hj, rfl⟩ := isB_ex (n := 12) (by decide) c
    rw [nI_clamp (by omega)]
    exact hf j hj
theorem add_inv (h : Inv S t md f n) {a0 n0 : Int32} : Inv (rsS (sX8_add S a0 n0)) t md f n := by
  unfold sX8_add
  by_cases c1 : isB a0 S.cn = 0
  · rw [if_pos c1]; exact h
  rw [if_neg c1]
  by_cases c2 : isPl a0 = 0
  rotate_left
  · rw [if_neg c2]; exact h
  rw [if_pos c2]
  by_cases c3 : isB n0 5 = 0
  · rw [if_pos c3]; exact h
  rw [if_neg c3]
  by_cases c4 : aA S.fc 0 a0 + n0 ≤ 8
  rotate_left
  · rw [if_neg c4]; exact h
  rw [if_pos c4]
  by_cases c5 : S.cn < 12
  rotate_left
  · rw [if_neg c5]; exact h
  rw [if_pos c5]
  unfold sX0_enlist
  by_cases c6 : isB S.cn 12 = 0
  · rw [if_pos c6]; exact h
  rw [if_neg c6]
  obtain ⟨j, hj, rfl⟩ := isB_ex (n := 5) (by decide) c3
  obtain ⟨z, hz, ez⟩ := aA_ok h.fc a0
  rw [ez, nI_add] at c4
  have hzj : z + j ≤ 8 := (nI_leI (b := 8) (by omega) (by decide)).mp c4
  refine inv_cl h (fun i hi => ?_)
  by_cases c : i = Int32.toNatClampNeg S.cn
  · rw [c, pk_us, ez, nI_add]
    exact ⟨z + j, hzj, rfl⟩
  · rw [pk_un c]
    exact h.fc i hi
theorem li_add (h : LI Z A B) {a n0 : Int32} (hf : (rsS (sX8_add Z a n0)).fr = Z.fr) : LI (sL_add Z a n0).2 A B := h.sm (fun t md f n q => ⟨add_inv q, hf⟩)
theorem add_fr {a n0 : Int32} : (rsS (sX8_add Z a n0)).fr = Z.fr := by
  unfold sX8_add
  by_cases c1 : isB a Z.cn = 0
  · rw [if_pos c1]; rfl
  rw [if_neg c1]
  by_cases c2 : isPl a = 0
  rotate_left
  · rw [if_neg c2]; rfl
  rw [if_pos c2]
  by_cases c3 : isB n0 5 = 0
  · rw [if_pos c3]; rfl
  rw [if_neg c3]
  by_cases c4 : aA Z.fc 0 a + n0 ≤ 8
  rotate_left
  · rw [if_neg c4]; rfl
  rw [if_pos c4]
  by_cases c5 : Z.cn < 12
  rotate_left
  · rw [if_neg c5]; rfl
  rw [if_pos c5]
  unfold sX0_enlist
  by_cases c6 : isB Z.cn 12 = 0
  · rw [if_pos c6]; rfl
  rw [if_neg c6]
  rfl
theorem li_classes3 (h : LI Z A B) : LI (sL_classes3 Z) A B := li_add (li_add (li_add h add_fr) add_fr) add_fr
theorem al0_p {j : Nat} (hj : j < 60) : pT al0 j = ⟨j, hj⟩ := by
  unfold pT al0
  rw [dif_pos hj]
  rfl
theorem inv_S0 : Inv S0 0 0 0 0 := by
  refine ⟨⟨⟨⟨rfl, by decide⟩, fun j hj => ?_, fun i j hi hj e => ?_, fun i j _ hj => absurd hj (Nat.not_lt_zero j), fun j hj => absurd hj (Nat.not_lt_zero j), fun j hj => absurd hj (Nat.not_lt_zero j)⟩, rfl, rfl, fun k => rfl, fun j hj => absurd hj (Nat.not_lt_zero j)⟩,
    ⟨fun g hg => ?_, fun q => absurd (show (45 : Int32) = 114 from q) (by decide), fun i hi => ⟨0, by decide, rfl⟩⟩,
    ⟨fun j k q => (nomatch (show (none : Option Nat) = some k from q)), fun k hk => absurd hk (Nat.not_lt_zero k), ⟨0, by decide, rfl, fun r hr => absurd hr (Nat.not_lt_zero r)⟩, Nat.lt_succ_self 0⟩,
    ⟨rfl, by decide, fun i hi hif => absurd hif (Nat.not_lt_zero i)⟩, rfl, rfl⟩
  · show al0 j = some (pT al0 j)
    rw [al0_p hj]
    unfold al0
    rw [dif_pos hj]
  · have e : pT al0 i = pT al0 j := e
    rw [al0_p hi, al0_p hj] at e
    exact congrArg Fin.val e
  · show okV _ (fillJ (fun _ => 0) 502511173632 8 g)
    unfold fillJ
    rw [if_pos hg]
    exact okV_u
theorem li_S0 : LI (sL_classes3 S0) 0 0 := li_classes3 ⟨0, 0, 0, 0, inv_S0, Nat.le_refl _, Nat.le_refl _⟩
/-! two houses -/
theorem dj_step {S1 S2 : Ho} {sz : Nat} (h : DJ x1 x2) (by9 : BY x1 y sz) (w0 : ∀ q, sz ≤ q → ov κ ar x1 S1 (ov κ ar x2 S2 G) q = none) : DJ y x2 :=
  h.y by9 (fun q hq => (ov_new0 (fun q z => (ov_new0 w0 q z).2) q hq).1)
theorem ov_gv {S2 : Ho} (h : DJ x1 x2) (g : gLv x1 (ov κ ar x2 S2 G) G1) : G1 = ov κ ar x2 S2 G1 := by
  funext q
  cases hb : x2.b q with
  | none => exact (ov_0 hb).symm
  | some t =>
    rw [ov_s hb]
    refine g q _ ?_ (ov_s hb)
    rcases h q with z | z
    · exact z
    · rw [hb] at z; cases z
theorem lc_self (a : Int64) : lg_cmp a a = 0 := (lg_cmp_eq a a).mpr rfl
theorem lc_eq {a b : Int64} (h : a = b) : lg_cmp a b = 0 := (lg_cmp_eq a b).mpr h
theorem and31 (v : Int32) : ∃ j : Nat, j < 2 ^ 31 ∧ v &&& 2147483647 = nI j := pk_andE v 31 (by decide)
end LIN
