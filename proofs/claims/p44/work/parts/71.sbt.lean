/-! a builder with what it holds; numbers of the law's cells -/
section SBT
variable {l : Launch} {D : va_G} {G G1 : gW} {ar : Nat → ClassId} {κ : Nat → Nat} {a v : Nat} {bs : List Int32}
theorem met_wq {ws : List Cond} {rm : Room} {y : MethodName} {cl : List vw_C} {tys : List (ClassId × FieldType)} {EX : (Nat → Prop) → State → Heap → Prop} {G : gW} {sz : Nat} {av : List Value} {A : Nat → Prop} {mc ms : Nat} {fr : Addr → Prop} {post post2 : Option Nat → gW × Nat → Prop}
    (hM : Met l y ws rm (g_Pc D cl tys EX G sz av) (g_Qq D cl A post) mc ms fr) (h : (∀ q, sz ≤ q → G q = none) → ∀ r u, post r u → post2 r u) : Met l y ws rm (g_Pc D cl tys EX G sz av) (g_Qq D cl A post2) mc ms fr :=
  Jvm.Free.MetFree.mono hM (fun _ _ h9 => h9) (fun _ _ _ _ _ h9 => h9) (fun a s o t hP q => by
    obtain ⟨⟨⟨r, u, h1, h2, h3⟩, h4⟩, h5⟩ := q
    refine ⟨⟨⟨r, u, h1, h (fun q9 hq => ?_) r u h2, h3⟩, h4⟩, h5⟩
    cases hG : G q9 with
    | none => rfl
    | some e9 =>
      have h6 := g_lt hP.2.2.1 hG
      have h7 : s.heap.size = sz := hP.2.1
      omega)
/-- a builder at q that holds B, beside a world that stays -/
def SbT (ar : Nat → ClassId) (κ : Nat → Nat) (G0 G : gW) (q : Nat) (B : List Int32) : Prop :=
  gLe G0 G ∧ G0 q = none ∧ ∃ (v : Nat) (ml : Int32) (cs : List Int32), G0 v = none ∧ G q = some (.inr (1, [.ref v, .int 0, .int ml, .int (nI B.length)])) ∧ G v = some (.inl (ar 4, cs.length, .inl (tyF cs))) ∧ B = cs.take B.length ∧ B.length ≤ cs.length ∧ Asc cs ∧ cs.length ≤ 100 ∧ 0 < cs.length
theorem SbT.o {G0 : gW} {q : Nat} {B : List Int32} (h : SbT ar κ G0 G q B) : ∃ (v : Nat) (ml n : Int32), G q = some (.inr (1, [.ref v, .int 0, .int ml, .int n])) := by
  obtain ⟨-, -, v, ml, cs, -, h, -⟩ := h
  exact ⟨v, ml, _, h⟩
theorem SbT.new {G0 : gW} {q : Nat} (h0 : G0 q = none) (h1 : G0 (q + 1) = none) : SbT ar κ G0 (g_up (g_up G0 q (.inr (1, [.ref (q + 1), .int 0, .int 0, .int 0]))) (q + 1) (.inl (ar 4, 16, .inl (fun _ => 0)))) q [] := by
  refine ⟨(gLe.r.up h0).up h1, h0, q + 1, 0, List.replicate 16 0, h1, g_up_o (by omega) g_up_s, ?_, rfl, Nat.zero_le _, fun b hb => ⟨0, by decide, (List.mem_replicate.mp hb).2⟩, by rw [List.length_replicate]; decide, by rw [List.length_replicate]; decide⟩
  rw [show tyF (List.replicate 16 (0 : Int32)) = fun _ => 0 from funext fun j => tyF_rep, List.length_replicate]
  exact g_up_s
theorem b_app (l : Launch) (D : va_G) (ar : Nat → ClassId) (κ : Nat → Nat) (G : gW) (sz : Nat) (q b vb : Nat) (bs : List Int32) (G0 : gW) (B : List Int32) (hB : SbT ar κ G0 G q B) (ht : ∀ G9, TX ar κ G9 b vb bs) (hA : Asc bs) (hm : B.length + bs.length ≤ 36) :
    Met l yJ4_append_15ec4 (lwC yJ4_append_15ec4 cJ4_append_15ec4 2 (some (.object "java/lang/StringBuilder"))) (rD 7 1 100) (g_Pc D vwCl (gT ar) (EX1 κ) G sz [.ref q, .ref b]) (g_Qq D vwCl (g_A G sz) (fun r u => r = some q ∧ SbT ar κ G0 u.1 q (B ++ bs))) 1 100 (g_A G sz) := by
  obtain ⟨hg, h0, v, ml, cs, hv0, hq, hv, hB1, hB2, hA1, h100, hp⟩ := hB
  refine met_wq (j_SBappend l D ar κ G sz q b vb bs v cs ml B.length hq hv ht hA1 hA hB2 hp h100 hm) (fun hfr r u hz => ?_)
  obtain ⟨rfl, v1, cs1, hu, hv1, e1, e2, e3, e4, e5⟩ := hz
  have hs0 : G sz = none := hfr sz (Nat.le_refl _)
  have hv10 : G0 v1 = none := by
    rcases hv1 with rfl | rfl
    · exact hv0
    · exact hg.z hs0
  have hvq : v1 ≠ q := by
    rcases hv1 with rfl | rfl
    · exact g_nx hv hq (by simp)
    · exact fun z => by rw [z, hq] at hs0; cases hs0
  have hlen : (B ++ bs).length = B.length + bs.length := List.length_append
  refine ⟨rfl, ?_⟩
  rw [hu]
  exact ⟨(hg.up hv10).up h0, h0, v1, ml, cs1, hv10, by rw [hlen]; exact g_up_s, g_up_o hvq g_up_s, by rw [hlen, e1, ← hB1], by rw [hlen]; exact e2, e3, e4, e5⟩
theorem b_appI (l : Launch) (D : va_G) (ar : Nat → ClassId) (κ : Nat → Nat) (G : gW) (sz : Nat) (q d : Nat) (G0 : gW) (B : List Int32) (hB : SbT ar κ G0 G q B) (hd : d < 10) (hm : B.length + 1 ≤ 36) :
    Met l yJ4_append_bf812 (lwC yJ4_append_bf812 cJ4_append_bf812 2 (some (.object "java/lang/StringBuilder"))) (rD 7 1 100) (g_Pc D vwCl (gT ar) (EX1 κ) G sz [.ref q, .int (nI d)]) (g_Qq D vwCl (g_A G sz) (fun r u => r = some q ∧ SbT ar κ G0 u.1 q (B ++ [nI (48 + d)]))) 1 100 (g_A G sz) := by
  obtain ⟨hg, h0, v, ml, cs, hv0, hq, hv, hB1, hB2, hA1, h100, hp⟩ := hB
  refine met_wq (j_SBappendI l D ar κ G sz q v cs ml B.length d hq hv hA1 hd hB2 hp h100 hm) (fun hfr r u hz => ?_)
  obtain ⟨rfl, v1, cs1, hu, hv1, e1, e2, e3, e4, e5⟩ := hz
  have hs0 : G sz = none := hfr sz (Nat.le_refl _)
  have hv10 : G0 v1 = none := by
    rcases hv1 with rfl | rfl
    · exact hv0
    · exact hg.z hs0
  have hvq : v1 ≠ q := by
    rcases hv1 with rfl | rfl
    · exact g_nx hv hq (by simp)
    · exact fun z => by rw [z, hq] at hs0; cases hs0
  have hlen : (B ++ [nI (48 + d)]).length = B.length + 1 := List.length_append
  refine ⟨rfl, ?_⟩
  rw [hu]
  exact ⟨(hg.up hv10).up h0, h0, v1, ml, cs1, hv10, by rw [hlen]; exact g_up_s, g_up_o hvq g_up_s, by rw [hlen, e1, ← hB1], by rw [hlen]; exact e2, e3, e4, e5⟩
theorem b_str (l : Launch) (D : va_G) (ar : Nat → ClassId) (κ : Nat → Nat) (G : gW) (sz : Nat) (q : Nat) (G0 : gW) (B : List Int32) (hB : SbT ar κ G0 G q B) :
    Met l yJ4_toString_0e30d (lwC yJ4_toString_0e30d cJ4_toString_0e30d 1 (some (.object "java/lang/String"))) (rD 6 2 104) (g_Pc D vwCl (gT ar) (EX1 κ) G sz [.ref q]) (g_Qq D vwCl (g_A G sz) (fun r u => ∃ a9 v9, r = some a9 ∧ TX ar κ u.1 a9 v9 B ∧ gLe G0 u.1)) 2 104 (g_A G sz) := by
  obtain ⟨hg, h0, v, ml, cs, hv0, hq, hv, hB1, hB2, hA1, h100, hp⟩ := hB
  refine met_wq (j_toString l D ar κ G sz q v cs ml B.length hq hv hA1 hB2 h100) (fun hfr r u hz => ?_)
  obtain ⟨h1, h2, h3⟩ := hz
  rw [← hB1] at h2
  exact ⟨sz, sz + 1, h1, h2, hg.t h3⟩
/-! the law's numbers -/
theorem nI_div {n m : Nat} (h : n < 2 ^ 31) (hm : m < 2 ^ 31) (h0 : 0 < m) : nI n / nI m = nI (n / m) := by
  have hq : n / m ≤ n := Nat.div_le_self n m
  apply Int32.toInt_inj.mp
  rw [Int32.toInt_div_of_ne_right _ _ (fun q => absurd (q ▸ nI_pos (n := m) hm) (by decide)), nI_toInt h, nI_toInt hm, nI_toInt (by omega), Int.tdiv_eq_ediv_of_nonneg (by omega)]
  exact Int.natCast_ediv n m
theorem nI_rem {n m : Nat} (h : n < 2 ^ 31) (hm : m < 2 ^ 31) (h0 : 0 < m) : nI n - nI n / nI m * nI m = nI (n % m) := by
  rw [nI_div h hm h0, pk_mul, pk_sub (Nat.div_mul_le_self n m)]
  congr 1
  have := Nat.div_add_mod n m
  rw [Nat.mul_comm] at this
  omega
theorem tg0 (c : Nat) (h : c < 128 ∧ ¬ c = 32 ∧ ¬ c = 44) : tkG (nI c, [], none) := ⟨⟨c, h.1, rfl, h.2.1, h.2.2⟩, Or.inl rfl⟩
theorem tg1 (c d : Nat) (h : c < 128 ∧ ¬ c = 32 ∧ ¬ c = 44) (hd : d < 10) : tkG (nI c, [nI (48 + d)], none) := ⟨⟨c, h.1, rfl, h.2.1, h.2.2⟩, Or.inr (Or.inl ⟨d, hd, rfl⟩)⟩
theorem tg2 (c d e : Nat) (h : c < 128 ∧ ¬ c = 32 ∧ ¬ c = 44) (hd : d < 10) (he : e < 10) : tkG (nI c, [nI (48 + d), nI (48 + e)], none) := ⟨⟨c, h.1, rfl, h.2.1, h.2.2⟩, Or.inr (Or.inr ⟨d, e, hd, he, rfl⟩)⟩
theorem tg3 (c d e : Nat) (h : c < 128 ∧ ¬ c = 32 ∧ ¬ c = 44) (hd : d < 10) (he : e < 10) : tkG (nI c, [nI (48 + d)], some [nI (48 + e)]) := ⟨⟨c, h.1, rfl, h.2.1, h.2.2⟩, Or.inl ⟨d, hd, rfl⟩, Or.inl ⟨e, he, rfl⟩⟩
theorem tgN : ∀ u ∈ ([] : List Tk), tkG u := fun _ h => by cases h
theorem tgC {t : Tk} {L : List Tk} (h : tkG t) (hL : ∀ u ∈ L, tkG u) : ∀ u ∈ t :: L, tkG u := fun u hu => (List.mem_cons.mp hu).elim (fun q => by rw [q]; exact h) (hL u)
theorem g_eqw2 {cl : List vw_C} {A : Nat → Prop} {H0 H : Heap} {locs : List Loc} {n : Nat} {U : gW × Nat} (w : g_S D cl A H0 G H locs n) (h : (G, n) = U) : g_S D cl A H0 U.1 H locs U.2 := by
  subst h
  exact w
end SBT
