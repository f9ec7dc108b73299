theorem dX15_isBetween_0 : decode cX15_isBetween 0 = .ok (.iload_n 1, 1) := by decide +kernel
theorem dX15_isBetween_1 : decode cX15_isBetween 1 = .ok (.iload_n 0, 1) := by decide +kernel
theorem dX15_isBetween_2 : decode cX15_isBetween 2 = .ok (.if_icmp .gt 12, 3) := by decide +kernel
theorem dX15_isBetween_5 : decode cX15_isBetween 5 = .ok (.iload_n 0, 1) := by decide +kernel
theorem dX15_isBetween_6 : decode cX15_isBetween 6 = .ok (.iload_n 2, 1) := by decide +kernel
theorem dX15_isBetween_7 : decode cX15_isBetween 7 = .ok (.if_icmp .gt 7, 3) := by decide +kernel
theorem dX15_isBetween_10 : decode cX15_isBetween 10 = .ok (.iconst 1, 1) := by decide +kernel
theorem dX15_isBetween_11 : decode cX15_isBetween 11 = .ok (.goto 4, 3) := by decide +kernel
theorem dX15_isBetween_14 : decode cX15_isBetween 14 = .ok (.iconst 0, 1) := by decide +kernel
theorem dX15_isBetween_15 : decode cX15_isBetween 15 = .ok (.ireturn, 1) := by decide +kernel
theorem dX15_isWrong_0 : decode cX15_isWrong 0 = .ok (.aload_n 0, 1) := by decide +kernel
theorem dX15_isWrong_1 : decode cX15_isWrong 1 = .ok (.iload_n 1, 1) := by decide +kernel
theorem dX15_isWrong_2 : decode cX15_isWrong 2 = .ok (.putfield 54, 3) := by decide +kernel
theorem dX15_isWrong_5 : decode cX15_isWrong 5 = .ok (.iload_n 1, 1) := by decide +kernel
theorem dX15_isWrong_6 : decode cX15_isWrong 6 = .ok (.ifCond .eq 7, 3) := by decide +kernel
theorem dX15_isWrong_9 : decode cX15_isWrong 9 = .ok (.iconst 1, 1) := by decide +kernel
theorem dX15_isWrong_10 : decode cX15_isWrong 10 = .ok (.goto 4, 3) := by decide +kernel
theorem dX15_isWrong_13 : decode cX15_isWrong 13 = .ok (.iconst 0, 1) := by decide +kernel
theorem dX15_isWrong_14 : decode cX15_isWrong 14 = .ok (.ireturn, 1) := by decide +kernel
theorem dX15_isClass_0 : decode cX15_isClass 0 = .ok (.iload_n 1, 1) := by decide +kernel
theorem dX15_isClass_1 : decode cX15_isClass 1 = .ok (.iconst 0, 1) := by decide +kernel
theorem dX15_isClass_2 : decode cX15_isClass 2 = .ok (.aload_n 0, 1) := by decide +kernel
theorem dX15_isClass_3 : decode cX15_isClass 3 = .ok (.getfield 21, 3) := by decide +kernel
theorem dX15_isClass_6 : decode cX15_isClass 6 = .ok (.invokevirtual 58, 3) := by decide +kernel
theorem dX15_isClass_9 : decode cX15_isClass 9 = .ok (.iconst 1, 1) := by decide +kernel
theorem dX15_isClass_10 : decode cX15_isClass 10 = .ok (.isub, 1) := by decide +kernel
theorem dX15_isClass_11 : decode cX15_isClass 11 = .ok (.invokestatic 62, 3) := by decide +kernel
theorem dX15_isClass_14 : decode cX15_isClass 14 = .ok (.ireturn, 1) := by decide +kernel
theorem dX15_fields_0 : decode cX15_fields 0 = .ok (.aload_n 0, 1) := by decide +kernel
theorem dX15_fields_1 : decode cX15_fields 1 = .ok (.aload_n 0, 1) := by decide +kernel
theorem dX15_fields_2 : decode cX15_fields 2 = .ok (.iload_n 1, 1) := by decide +kernel
theorem dX15_fields_3 : decode cX15_fields 3 = .ok (.invokevirtual 66, 3) := by decide +kernel
theorem dX15_fields_6 : decode cX15_fields 6 = .ok (.ifCond .eq 7, 3) := by decide +kernel
theorem dX15_fields_9 : decode cX15_fields 9 = .ok (.iconst 0, 1) := by decide +kernel
theorem dX15_fields_10 : decode cX15_fields 10 = .ok (.goto 4, 3) := by decide +kernel
theorem dX15_fields_13 : decode cX15_fields 13 = .ok (.iconst 1, 1) := by decide +kernel
theorem dX15_fields_14 : decode cX15_fields 14 = .ok (.invokevirtual 77, 3) := by decide +kernel
theorem dX15_fields_17 : decode cX15_fields 17 = .ok (.ifCond .eq 7, 3) := by decide +kernel
theorem dX15_fields_20 : decode cX15_fields 20 = .ok (.iconst 0, 1) := by decide +kernel
theorem dX15_fields_21 : decode cX15_fields 21 = .ok (.goto 17, 3) := by decide +kernel
theorem dX15_fields_24 : decode cX15_fields 24 = .ok (.aload_n 0, 1) := by decide +kernel
theorem dX15_fields_25 : decode cX15_fields 25 = .ok (.getfield 21, 3) := by decide +kernel
theorem dX15_fields_28 : decode cX15_fields 28 = .ok (.iload_n 1, 1) := by decide +kernel
theorem dX15_fields_29 : decode cX15_fields 29 = .ok (.invokevirtual 70, 3) := by decide +kernel
theorem dX15_fields_32 : decode cX15_fields 32 = .ok (.checkcast 45, 3) := by decide +kernel
theorem dX15_fields_35 : decode cX15_fields 35 = .ok (.getfield 74, 3) := by decide +kernel
theorem dX15_fields_38 : decode cX15_fields 38 = .ok (.ireturn, 1) := by decide +kernel
section SITES
variable {p : Program} {l : Launch} {e : Env} {R : Room} {s : State} {m : MethodId} {args : Array Value} {below : List Frame} {meth : Method} {c : Code} {H : Heap} {locs : List Loc} {cells slots : Nat} {Q : State → Prop}
variable {pc : Nat} {ls : Array Slot} {rest : List Value} {D : va_G} {ar : Nat → ClassId} {κ : Nat → Nat} {A : Nat → Prop} {a : Nat} {H0 : Heap} {G : gW} {nz nL : Nat} {cc : ByteArray}
theorem m_6_152 : (Cond.fieldLink RX15 54 "SendhouseModel" "thrown" "I") ∈ lwA := lwA_mk (ck_6 _ (List.mem_of_getElem? (i := 152) rfl)) rfl
theorem pf_RX15_54_19 {A9 : Nat → Prop} {H9 : Heap} {fs : List Value} {v : Value} (S : CallFix p m c cc nL s args lwA RX15) (hE : g_E D vwCl (gT ar) (EX1 κ) A9 s H9) (w : g_S D vwCl A H0 G H locs nz) (ha : G a = some (.inr (19, fs))) (hn : narrow .int v = v) (hfit : fits .int v = true) (hl : 7 < fs.length) {fs1 : List Value} (hfs : fs.set 7 v = fs1) (hdg : decode cc pc = .ok (.putfield 54, 3)) (kk : ∀ (H1 : Heap) (locs1 : List Loc), g_S D vwCl A H0 (g_up G a (.inr (19, fs1))) H1 locs1 nz → W p l e R s m args below meth c H1 locs1 cells slots Q (F0 m (pc + 3) ls rest)) : W p l e R s m args below meth c H locs cells slots Q (F0 m pc ls (v :: .ref a :: rest)) :=
  g_put (ci := 19) (ty := .int) (C := RX15) (T := TX15) (N := 14) S.1 S.2.1 S.2.2.2.2 inA_RX15 tyX15 tyX15_ok nmX15 S.2.2.2.1 hE.1 w ha rfl 7 (by decide) (S.2.2.2.2 _ m_6_152) (fun _ h => h) rfl (by decide +kernel) hn hfit hl hdg (fun H1 l1 w1 => kk H1 l1 (by rw [← hfs]; exact w1))
theorem m_5_101 : (Cond.code yJx4a65c_size_8abf5 cJx4a65c_size_8abf5 1 (some .int)) ∈ lwA := lwA_mk (ck_5 _ (List.mem_of_getElem? (i := 101) rfl)) rfl
theorem m_6_200 : (Cond.methodLink RX15 58 yJx4a65c_size_8abf5) ∈ lwA := lwA_mk (ck_6 _ (List.mem_of_getElem? (i := 200) rfl)) rfl
theorem m_5_99 : (Cond.instanceMethod yJx4a65c_size_8abf5) ∈ lwA := lwA_mk (ck_5 _ (List.mem_of_getElem? (i := 99) rfl)) rfl
theorem m_5_100 : (Cond.selects RJx4a65c yJx4a65c_size_8abf5 yJx4a65c_size_8abf5) ∈ lwA := lwA_mk (ck_5 _ (List.mem_of_getElem? (i := 100) rfl)) rfl
theorem k_RX15_58 {args : Array Value} {s : State} {R rm : Room} (hts : ∀ w ∈ lwA, w.before args s = true) (hR : rm.frames + 1 ≤ R.frames ∧ 8 + (1 + 11) + rm.locals ≤ R.locals) : CallW R s args RX15 RJx4a65c 58 yJx4a65c_size_8abf5 cJx4a65c_size_8abf5 1 (some .int) (lwC yJx4a65c_size_8abf5 cJx4a65c_size_8abf5 1 (some .int)) rm rm.cells rm.slots 0 := cwV 0 hts (gdV m_6_200 m_5_99 m_5_100 m_1_9 m_5_101) rfl rfl rfl (by decide +kernel) hR
theorem m_6_203 : (Cond.code yX15_isBetween cX15_isBetween 3 (some .boolean)) ∈ lwA := lwA_mk (ck_6 _ (List.mem_of_getElem? (i := 203) rfl)) rfl
theorem m_1_12 : (Cond.initialized RX15) ∈ lwA := lwA_mk (ck_1 _ (List.mem_of_getElem? (i := 12) rfl)) rfl
theorem m_6_201 : (Cond.methodLink RX15 62 yX15_isBetween) ∈ lwA := lwA_mk (ck_6 _ (List.mem_of_getElem? (i := 201) rfl)) rfl
theorem m_6_202 : (Cond.static yX15_isBetween) ∈ lwA := lwA_mk (ck_6 _ (List.mem_of_getElem? (i := 202) rfl)) rfl
theorem k_RX15_62 {args : Array Value} {s : State} {R rm : Room} (hts : ∀ w ∈ lwA, w.before args s = true) (hR : rm.frames + 1 ≤ R.frames ∧ 8 + (3 + 11) + rm.locals ≤ R.locals) : CallB R s args RX15 62 yX15_isBetween cX15_isBetween 3 (some .boolean) (lwC yX15_isBetween cX15_isBetween 3 (some .boolean)) rm rm.cells rm.slots 3 ∧ (Cond.static yX15_isBetween).before args s = true := cwS 3 hts (gdS m_6_201 m_6_202 m_1_12 m_6_203) rfl rfl rfl (by decide +kernel) hR
theorem m_6_199 : (Cond.code yX15_isClass cX15_isClass 2 (some .boolean)) ∈ lwA := lwA_mk (ck_6 _ (List.mem_of_getElem? (i := 199) rfl)) rfl
theorem m_6_196 : (Cond.methodLink RX15 66 yX15_isClass) ∈ lwA := lwA_mk (ck_6 _ (List.mem_of_getElem? (i := 196) rfl)) rfl
theorem m_6_198 : (Cond.instanceMethod yX15_isClass) ∈ lwA := lwA_mk (ck_6 _ (List.mem_of_getElem? (i := 198) rfl)) rfl
theorem ms_40 : (Cond.selects RX15 yX15_isClass yX15_isClass) ∈ lwA := lwA_mk (List.mem_append_left _ (List.mem_of_getElem? (i := 40) rfl)) rfl
theorem k_RX15_66 {args : Array Value} {s : State} {R rm : Room} (hts : ∀ w ∈ lwA, w.before args s = true) (hR : rm.frames + 1 ≤ R.frames ∧ 8 + (2 + 11) + rm.locals ≤ R.locals) : CallW R s args RX15 RX15 66 yX15_isClass cX15_isClass 2 (some .boolean) (lwC yX15_isClass cX15_isClass 2 (some .boolean)) rm rm.cells rm.slots 1 := cwV 1 hts (gdV m_6_196 m_6_198 ms_40 m_1_12 m_6_199) rfl rfl rfl (by decide +kernel) hR
theorem m_6_208 : (Cond.code yX15_isWrong cX15_isWrong 2 (some .boolean)) ∈ lwA := lwA_mk (ck_6 _ (List.mem_of_getElem? (i := 208) rfl)) rfl
theorem m_6_205 : (Cond.methodLink RX15 77 yX15_isWrong) ∈ lwA := lwA_mk (ck_6 _ (List.mem_of_getElem? (i := 205) rfl)) rfl
theorem m_6_207 : (Cond.instanceMethod yX15_isWrong) ∈ lwA := lwA_mk (ck_6 _ (List.mem_of_getElem? (i := 207) rfl)) rfl
theorem ms_41 : (Cond.selects RX15 yX15_isWrong yX15_isWrong) ∈ lwA := lwA_mk (List.mem_append_left _ (List.mem_of_getElem? (i := 41) rfl)) rfl
theorem k_RX15_77 {args : Array Value} {s : State} {R rm : Room} (hts : ∀ w ∈ lwA, w.before args s = true) (hR : rm.frames + 1 ≤ R.frames ∧ 8 + (2 + 11) + rm.locals ≤ R.locals) : CallW R s args RX15 RX15 77 yX15_isWrong cX15_isWrong 2 (some .boolean) (lwC yX15_isWrong cX15_isWrong 2 (some .boolean)) rm rm.cells rm.slots 1 := cwV 1 hts (gdV m_6_205 m_6_207 ms_41 m_1_12 m_6_208) rfl rfl rfl (by decide +kernel) hR
theorem m_5_193 : (Cond.code yJx4a65c_get_915e3 cJx4a65c_get_915e3 2 (some (.object "java/lang/Object"))) ∈ lwA := lwA_mk (ck_5 _ (List.mem_of_getElem? (i := 193) rfl)) rfl
theorem m_6_204 : (Cond.methodLink RX15 70 yJx4a65c_get_915e3) ∈ lwA := lwA_mk (ck_6 _ (List.mem_of_getElem? (i := 204) rfl)) rfl
theorem m_5_191 : (Cond.instanceMethod yJx4a65c_get_915e3) ∈ lwA := lwA_mk (ck_5 _ (List.mem_of_getElem? (i := 191) rfl)) rfl
theorem m_5_192 : (Cond.selects RJx4a65c yJx4a65c_get_915e3 yJx4a65c_get_915e3) ∈ lwA := lwA_mk (ck_5 _ (List.mem_of_getElem? (i := 192) rfl)) rfl
theorem k_RX15_70 {args : Array Value} {s : State} {R rm : Room} (hts : ∀ w ∈ lwA, w.before args s = true) (hR : rm.frames + 1 ≤ R.frames ∧ 8 + (2 + 11) + rm.locals ≤ R.locals) : CallW R s args RX15 RJx4a65c 70 yJx4a65c_get_915e3 cJx4a65c_get_915e3 2 (some (.object "java/lang/Object")) (lwC yJx4a65c_get_915e3 cJx4a65c_get_915e3 2 (some (.object "java/lang/Object"))) rm rm.cells rm.slots 1 := cwV 1 hts (gdV m_6_204 m_5_191 m_5_192 m_1_9 m_5_193) rfl rfl rfl (by decide +kernel) hR
theorem gf_RX15_74_14 {A9 : Nat → Prop} {H9 : Heap} {fs : List Value} {v : Value} (S : CallFix p m c cc nL s args lwA RX15) (hE : g_E D vwCl (gT ar) (EX1 κ) A9 s H9) (w : g_S D vwCl A H0 G H locs nz) (ha : G a = some (.inr (14, fs))) (hv : fs[1]? = some v) (hdg : decode cc pc = .ok (.getfield 74, 3)) (kk : W p l e R s m args below meth c H locs cells slots Q (F0 m (pc + 3) ls (v :: rest))) : W p l e R s m args below meth c H locs cells slots Q (F0 m pc ls (.ref a :: rest)) :=
  va_getN (ci := 14) (C := RX10) (T := TX10) (N := 3) S.1 S.2.1 S.2.2.2.2 inA_RX10 S.2.2.2.1 hE.1 (g_1 w.1 ha) 0 rfl rfl 1 (by decide) (va_Nw.use rfl (hE.2.1.1 _ (ckN_1 _ (List.mem_of_getElem? (i := 38) rfl)))) (fun _ h => h) hv hdg kk
end SITES
def isW (v lo hi : Int32) : Int32 := if v < lo then 0 else if hi < v then 0 else 1
theorem isW_n {v h : Int32} (e : h.toInt = -1) : isW v 0 h = 0 := by
  unfold isW
  by_cases h1 : v < 0
  · rw [if_pos h1]
  · rw [if_neg h1]
    have h2 : h < v := by
      rw [Int32.lt_iff_toInt_lt] at h1 ⊢
      have e0 : (0 : Int32).toInt = 0 := by decide
      omega
    rw [if_pos h2]
theorem isW_B {v lo hi b : Int32} (e0 : lo = 0) (eb : b.toInt = hi.toInt + 1) (h0 : 0 ≤ hi.toInt) : isW v lo hi = isB v b := by
  subst e0
  unfold isW isB
  by_cases h1 : v < 0
  · rw [if_pos h1, if_pos h1]
  · rw [if_neg h1, if_neg h1]
    by_cases h2 : hi < v
    · have h3 : b ≤ v := by
        rw [Int32.lt_iff_toInt_lt] at h2
        rw [Int32.le_iff_toInt_le]
        omega
      rw [if_pos h2, if_pos h3]
    · have h3 : ¬ b ≤ v := by
        rw [Int32.lt_iff_toInt_lt] at h2
        rw [Int32.le_iff_toInt_le]
        omega
      rw [if_neg h2, if_neg h3]
theorem isB3 {i : Int32} (h : ¬ isB i 3 = 0) : i = 0 ∨ i = 1 ∨ i = 2 := by
  obtain ⟨h1, h2⟩ := isB_n.mp h
  rw [Int32.lt_iff_toInt_lt] at h1
  rw [Int32.le_iff_toInt_le] at h2
  have e0 : (0 : Int32).toInt = 0 := by decide
  have e1 : (1 : Int32).toInt = 1 := by decide
  have e2 : (2 : Int32).toInt = 2 := by decide
  have e3 : (3 : Int32).toInt = 3 := by decide
  rcases (show i.toInt = 0 ∨ i.toInt = 1 ∨ i.toInt = 2 by omega) with q | q | q
  · exact Or.inl (Int32.toInt_inj.mp (by rw [q, e0]))
  · exact Or.inr (Or.inl (Int32.toInt_inj.mp (by rw [q, e1])))
  · exact Or.inr (Or.inr (Int32.toInt_inj.mp (by rw [q, e2])))
theorem isB03 : isB 0 3 = 1 := by decide
theorem isB13 : isB 1 3 = 1 := by decide
theorem isB23 : isB 2 3 = 1 := by decide
theorem isPl0 : isPl 0 = 0 := by decide
theorem isPl1 : isPl 1 = 1 := by decide
theorem isPl2 : isPl 2 = 1 := by decide
/-- the model at y says that K was thrown -/
def TH (y : Nat) (K : Int32) (u : gW × Nat) : Prop := ∃ fs : List Value, u.1 y = some (.inr (19, fs)) ∧ fs[7]? = some (.int K)
theorem TH_mk {y : Nat} {K T : Int32} {G1 : gW} {n : Nat} {fs : List Value} (h : G1 y = some (.inr (19, fs))) (h7 : fs[7]? = some (.int T)) (e : K = T) : TH y K (G1, n) := ⟨fs, h, by rw [e]; exact h7⟩
theorem nz_first {K T r V : Int32} (e : K = T) (hT : ¬ T = 0) : K = 0 → r = V := fun h => absurd (e.symm.trans h) hT
theorem isW_nar (v lo hi : Int32) : narrow .boolean (.int (isW v lo hi)) = .int (isW v lo hi) := by
  unfold isW
  by_cases h1 : v < lo
  · simp only [h1, if_true]; rfl
  · by_cases h2 : hi < v
    · simp only [h1, h2, if_true, if_false]; rfl
    · simp only [h1, h2, if_false]; rfl
theorem K_meth_n {c s : Int32} : ¬ K_meth c s = 0 := by
  unfold K_meth
  split
  · decide
  · split <;> decide
/-- a model that was just made, at y, what it has from q on; t was thrown last -/
def FM (ar : Nat → ClassId) (κ : Nat → Nat) (G : gW) (y q : Nat) (t : Int32) : Prop := y < q ∧ G y = some (.inr (19, [.ref q, .ref (q + 1), .ref (q + 2), .ref (q + 3), .ref (q + 4), .ref (q + 5), .ref (q + 6), .int t, .int 0, .int 0, .int 0, .int 45, .int 0, .null])) ∧ G q = some (.inr (18, [.int 117, .int 0])) ∧ G (q + 1) = some (.inr (3, [.int 3, .ref (q + 9), .int 3])) ∧ G (q + 2) = some (.inr (3, [.int 0, .ref (κ 0), .int 0])) ∧ G (q + 3) = some (.inr (3, [.int 0, .ref (κ 0), .int 0])) ∧ G (q + 4) = some (.inr (3, [.int 0, .ref (κ 0), .int 0])) ∧ G (q + 5) = some (.inr (3, [.int 0, .ref (κ 0), .int 0])) ∧ G (q + 6) = some (.inl (ar 10, 8, .inr (.inr (.inr (.inr (va_up (va_up (va_up (va_up (va_up (va_up (va_up (va_up (fun _ => none) (Int32.toNatClampNeg 0) (some q)) (Int32.toNatClampNeg 1) (some q)) (Int32.toNatClampNeg 2) (some q)) (Int32.toNatClampNeg 3) (some q)) (Int32.toNatClampNeg 4) (some q)) (Int32.toNatClampNeg 5) (some q)) (Int32.toNatClampNeg 6) (some q)) (Int32.toNatClampNeg 7) (some q))))))) ∧ G (q + 7) = some (.inr (14, [.int (-1), .int 0, .ref (q + 8)])) ∧ G (q + 8) = some (.inl (ar 9, 16, .inr (.inr (.inr (.inr (fun _ => none)))))) ∧ G (q + 9) = some (.inl (ar 11, 10, .inr (.inr (.inr (.inr (va_up (va_up (va_up (fun _ => none) (Int32.toNatClampNeg 0) (some (q + 7))) (Int32.toNatClampNeg 1) (some (q + 10))) (Int32.toNatClampNeg 2) (some (q + 12)))))))) ∧ G (q + 10) = some (.inr (14, [.int 0, .int 0, .ref (q + 11)])) ∧ G (q + 11) = some (.inl (ar 9, 16, .inr (.inr (.inr (.inr (fun _ => none)))))) ∧ G (q + 12) = some (.inr (14, [.int 0, .int 0, .ref (q + 13)])) ∧ G (q + 13) = some (.inl (ar 9, 16, .inr (.inr (.inr (.inr (fun _ => none))))))
theorem FM_init (ar : Nat → ClassId) (κ : Nat → Nat) (G : gW) (y sz : Nat) (lt0 : y < sz) : FM ar κ ((g_up (g_up (g_up (g_up (g_up (g_up (g_up (g_up (g_up (g_up (g_up (g_up (g_up (g_up (g_up G sz (.inr (18, [.int 117, .int 0]))) y (.inr (19, [.ref sz, .ref (sz + 1), .ref (sz + 2), .ref (sz + 3), .ref (sz + 4), .ref (sz + 5), .ref (sz + 6), .int 0, .int 0, .int 0, .int 0, .int 45, .int 0, .null]))) (sz + 1) (.inr (3, [.int 3, .ref (sz + 9), .int 3]))) (sz + 2) (.inr (3, [.int 0, .ref (κ 0), .int 0]))) (sz + 3) (.inr (3, [.int 0, .ref (κ 0), .int 0]))) (sz + 4) (.inr (3, [.int 0, .ref (κ 0), .int 0]))) (sz + 5) (.inr (3, [.int 0, .ref (κ 0), .int 0]))) (sz + 6) (.inl (ar 10, 8, .inr (.inr (.inr (.inr (va_up (va_up (va_up (va_up (va_up (va_up (va_up (va_up (fun _ => none) (Int32.toNatClampNeg 0) (some sz)) (Int32.toNatClampNeg 1) (some sz)) (Int32.toNatClampNeg 2) (some sz)) (Int32.toNatClampNeg 3) (some sz)) (Int32.toNatClampNeg 4) (some sz)) (Int32.toNatClampNeg 5) (some sz)) (Int32.toNatClampNeg 6) (some sz)) (Int32.toNatClampNeg 7) (some sz)))))))) (sz + 7) (.inr (14, [.int (-1), .int 0, .ref (sz + 8)]))) (sz + 8) (.inl (ar 9, 16, .inr (.inr (.inr (.inr (fun _ => none))))))) (sz + 9) (.inl (ar 11, 10, .inr (.inr (.inr (.inr (va_up (va_up (va_up (fun _ => none) (Int32.toNatClampNeg 0) (some (sz + 7))) (Int32.toNatClampNeg 1) (some (sz + 10))) (Int32.toNatClampNeg 2) (some (sz + 12))))))))) (sz + 10) (.inr (14, [.int 0, .int 0, .ref (sz + 11)]))) (sz + 11) (.inl (ar 9, 16, .inr (.inr (.inr (.inr (fun _ => none))))))) (sz + 12) (.inr (14, [.int 0, .int 0, .ref (sz + 13)]))) (sz + 13) (.inl (ar 9, 16, .inr (.inr (.inr (.inr (fun _ => none)))))))) y sz 0 :=
  ⟨lt0, (g_up_o (by omega) (g_up_o (by omega) (g_up_o (by omega) (g_up_o (by omega) (g_up_o (by omega) (g_up_o (by omega) (g_up_o (by omega) (g_up_o (by omega) (g_up_o (by omega) (g_up_o (by omega) (g_up_o (by omega) (g_up_o (by omega) (g_up_o (by omega) g_up_s))))))))))))), (g_up_o (by omega) (g_up_o (by omega) (g_up_o (by omega) (g_up_o (by omega) (g_up_o (by omega) (g_up_o (by omega) (g_up_o (by omega) (g_up_o (by omega) (g_up_o (by omega) (g_up_o (by omega) (g_up_o (by omega) (g_up_o (by omega) (g_up_o (by omega) (g_up_o (by omega) g_up_s)))))))))))))), (g_up_o (by omega) (g_up_o (by omega) (g_up_o (by omega) (g_up_o (by omega) (g_up_o (by omega) (g_up_o (by omega) (g_up_o (by omega) (g_up_o (by omega) (g_up_o (by omega) (g_up_o (by omega) (g_up_o (by omega) (g_up_o (by omega) g_up_s)))))))))))), (g_up_o (by omega) (g_up_o (by omega) (g_up_o (by omega) (g_up_o (by omega) (g_up_o (by omega) (g_up_o (by omega) (g_up_o (by omega) (g_up_o (by omega) (g_up_o (by omega) (g_up_o (by omega) (g_up_o (by omega) g_up_s))))))))))), (g_up_o (by omega) (g_up_o (by omega) (g_up_o (by omega) (g_up_o (by omega) (g_up_o (by omega) (g_up_o (by omega) (g_up_o (by omega) (g_up_o (by omega) (g_up_o (by omega) (g_up_o (by omega) g_up_s)))))))))), (g_up_o (by omega) (g_up_o (by omega) (g_up_o (by omega) (g_up_o (by omega) (g_up_o (by omega) (g_up_o (by omega) (g_up_o (by omega) (g_up_o (by omega) (g_up_o (by omega) g_up_s))))))))), (g_up_o (by omega) (g_up_o (by omega) (g_up_o (by omega) (g_up_o (by omega) (g_up_o (by omega) (g_up_o (by omega) (g_up_o (by omega) (g_up_o (by omega) g_up_s)))))))), (g_up_o (by omega) (g_up_o (by omega) (g_up_o (by omega) (g_up_o (by omega) (g_up_o (by omega) (g_up_o (by omega) (g_up_o (by omega) g_up_s))))))), (g_up_o (by omega) (g_up_o (by omega) (g_up_o (by omega) (g_up_o (by omega) (g_up_o (by omega) (g_up_o (by omega) g_up_s)))))), (g_up_o (by omega) (g_up_o (by omega) (g_up_o (by omega) (g_up_o (by omega) (g_up_o (by omega) g_up_s))))), (g_up_o (by omega) (g_up_o (by omega) (g_up_o (by omega) (g_up_o (by omega) g_up_s)))), (g_up_o (by omega) (g_up_o (by omega) (g_up_o (by omega) g_up_s))), (g_up_o (by omega) (g_up_o (by omega) g_up_s)), (g_up_o (by omega) g_up_s), g_up_s⟩
theorem gl8 {q : Nat} {g : Int32} (h : vp_in g 8) : va_up (va_up (va_up (va_up (va_up (va_up (va_up (va_up (fun _ => none) (Int32.toNatClampNeg 0) (some q)) (Int32.toNatClampNeg 1) (some q)) (Int32.toNatClampNeg 2) (some q)) (Int32.toNatClampNeg 3) (some q)) (Int32.toNatClampNeg 4) (some q)) (Int32.toNatClampNeg 5) (some q)) (Int32.toNatClampNeg 6) (some q)) (Int32.toNatClampNeg 7) (some q) (Int32.toNatClampNeg g) = some q := by
  have hk := vp_in_iff.mp h
  have e : g.toNatClampNeg = g.toInt.toNat := rfl
  have e0 : Int32.toNatClampNeg 0 = 0 := by decide
  have e1 : Int32.toNatClampNeg 1 = 1 := by decide
  have e2 : Int32.toNatClampNeg 2 = 2 := by decide
  have e3 : Int32.toNatClampNeg 3 = 3 := by decide
  have e4 : Int32.toNatClampNeg 4 = 4 := by decide
  have e5 : Int32.toNatClampNeg 5 = 5 := by decide
  have e6 : Int32.toNatClampNeg 6 = 6 := by decide
  have e7 : Int32.toNatClampNeg 7 = 7 := by decide
  rw [e0, e1, e2, e3, e4, e5, e6, e7]
  generalize g.toNatClampNeg = k at e
  have hk8 : k < 8 := by omega
  unfold va_up
  rcases (show k = 0 ∨ k = 1 ∨ k = 2 ∨ k = 3 ∨ k = 4 ∨ k = 5 ∨ k = 6 ∨ k = 7 by omega) with rfl | rfl | rfl | rfl | rfl | rfl | rfl | rfl <;> rfl
set_option maxHeartbeats 4000000 in
set_option maxRecDepth 100000 in
theorem c_isBetween (l : Launch) (D : va_G) (ar : Nat → ClassId) (κ : Nat → Nat) (G : gW) (sz : Nat) (v : Int32) (lo : Int32) (hi : Int32) : Met l yX15_isBetween (lwC yX15_isBetween cX15_isBetween 3 (some .boolean)) (rD 1 0 0) (g_Pc D vwCl (gT ar) (EX1 κ) G sz [.int v, .int lo, .int hi]) (g_Qi D vwCl (g_A G sz) (fun r u => r = isW v lo hi ∧ u = (G, sz))) 0 0 (g_A G sz) := by
  refine g_ofW (by decide +kernel) (Nat.le_of_ble_eq_true rfl) ?_
  intro p e s m below meth c ls S hr hlk hin hE w hl
  have hx := S.1
  have hb := S.2.1
  have hl : lv_has ls 3 [(0, .int v), (1, .int lo), (2, .int hi)] := hl
  refine lv_iload_n hx hb dX15_isBetween_0 rfl (lv_at hl 1 rfl) ?_
  refine lv_iload_n hx hb dX15_isBetween_1 rfl (lv_at hl 0 rfl) ?_
  refine lv_icmp_gt (tgt := 14) hx hb dX15_isBetween_2 (by decide) (fun c_2 => ?_) (fun c_2 => ?_)
  · refine lv_iconst (v := 0) hx hb dX15_isBetween_14 (by decide) ?_
    exact g_zret hx hb hr hlk w (Nat.le_of_ble_eq_true rfl) (Nat.le_of_ble_eq_true rfl) dX15_isBetween_15 rfl ⟨by simp [isW, c_2], rfl⟩
  · refine lv_iload_n hx hb dX15_isBetween_5 rfl (lv_at hl 0 rfl) ?_
    refine lv_iload_n hx hb dX15_isBetween_6 rfl (lv_at hl 2 rfl) ?_
    refine lv_icmp_gt (tgt := 14) hx hb dX15_isBetween_7 (by decide) (fun c_7 => ?_) (fun c_7 => ?_)
    · refine lv_iconst (v := 0) hx hb dX15_isBetween_14 (by decide) ?_
      exact g_zret hx hb hr hlk w (Nat.le_of_ble_eq_true rfl) (Nat.le_of_ble_eq_true rfl) dX15_isBetween_15 rfl ⟨by simp [isW, c_2, c_7], rfl⟩
    · refine lv_iconst (v := 1) hx hb dX15_isBetween_10 (by decide) ?_
      refine lv_goto (tgt := 15) hx hb dX15_isBetween_11 (by decide) ?_
      exact g_zret hx hb hr hlk w (Nat.le_of_ble_eq_true rfl) (Nat.le_of_ble_eq_true rfl) dX15_isBetween_15 rfl ⟨by simp [isW, c_2, c_7], rfl⟩
set_option maxHeartbeats 4000000 in
set_option maxRecDepth 100000 in
theorem c_isWrong (l : Launch) (D : va_G) (ar : Nat → ClassId) (κ : Nat → Nat) (G : gW) (sz : Nat) (y : Nat) (k : Int32) (g0 : Option Nat) (g1 : Option Nat) (g2 : Option Nat) (g3 : Option Nat) (g4 : Option Nat) (g5 : Option Nat) (g6 : Option Nat) (g7 : Int32) (g8 : Int32) (g9 : Int32) (g10 : Int32) (g11 : Int32) (g12 : Int32) (g13 : Option Nat) (hy : G y = some (.inr (19, [va_rf g0, va_rf g1, va_rf g2, va_rf g3, va_rf g4, va_rf g5, va_rf g6, .int g7, .int g8, .int g9, .int g10, .int g11, .int g12, va_rf g13]))) : Met l yX15_isWrong (lwC yX15_isWrong cX15_isWrong 2 (some .boolean)) (rD 1 0 0) (g_Pc D vwCl (gT ar) (EX1 κ) G sz [.ref y, .int k]) (g_Qi D vwCl (g_A G sz) (fun r u => r = (if k = 0 then 0 else 1) ∧ u = ((g_up G y (.inr (19, [va_rf g0, va_rf g1, va_rf g2, va_rf g3, va_rf g4, va_rf g5, va_rf g6, .int k, .int g8, .int g9, .int g10, .int g11, .int g12, va_rf g13]))), sz))) 0 0 (g_A G sz) := by
  refine g_ofW (by decide +kernel) (Nat.le_of_ble_eq_true rfl) ?_
  intro p e s m below meth c ls S hr hlk hin hE w hl
  have hx := S.1
  have hb := S.2.1
  have hl : lv_has ls 2 [(0, .ref y), (1, .int k)] := hl
  have lt_hy : y < sz := g_ltn w hy
  refine lv_aload_n hx hb dX15_isWrong_0 rfl (lv_at hl 0 rfl) ?_
  refine lv_iload_n hx hb dX15_isWrong_1 rfl (lv_at hl 1 rfl) ?_
  refine pf_RX15_54_19 (fs1 := [va_rf g0, va_rf g1, va_rf g2, va_rf g3, va_rf g4, va_rf g5, va_rf g6, .int k, .int g8, .int g9, .int g10, .int g11, .int g12, va_rf g13]) S hE w hy rfl rfl (Nat.le_of_ble_eq_true rfl) rfl dX15_isWrong_2 (fun H locs w => ?_)
  refine lv_iload_n hx hb dX15_isWrong_5 rfl (lv_at hl 1 rfl) ?_
  refine lv_if_eq (tgt := 13) hx hb dX15_isWrong_6 (by decide) (fun c_6 => ?_) (fun c_6 => ?_)
  · refine lv_iconst (v := 0) hx hb dX15_isWrong_13 (by decide) ?_
    exact g_zret hx hb hr hlk w (Nat.le_of_ble_eq_true rfl) (Nat.le_of_ble_eq_true rfl) dX15_isWrong_14 rfl ⟨by simp [c_6], rfl⟩
  · refine lv_iconst (v := 1) hx hb dX15_isWrong_9 (by decide) ?_
    refine lv_goto (tgt := 14) hx hb dX15_isWrong_10 (by decide) ?_
    exact g_zret hx hb hr hlk w (Nat.le_of_ble_eq_true rfl) (Nat.le_of_ble_eq_true rfl) dX15_isWrong_14 rfl ⟨by simp [c_6], rfl⟩
set_option maxHeartbeats 4000000 in
set_option maxRecDepth 100000 in
theorem c_isClass (l : Launch) (D : va_G) (ar : Nat → ClassId) (κ : Nat → Nat) (G : gW) (sz : Nat) (y : Nat) (cl : Int32) (g0 : Option Nat) (g1 : Nat) (g2 : Option Nat) (g3 : Option Nat) (g4 : Option Nat) (g5 : Option Nat) (g6 : Option Nat) (g7 : Int32) (g8 : Int32) (g9 : Int32) (g10 : Int32) (g11 : Int32) (g12 : Int32) (g13 : Option Nat) (mc0 : Int32) (ed : Option Nat) (n : Int32) (hy : G y = some (.inr (19, [va_rf g0, .ref g1, va_rf g2, va_rf g3, va_rf g4, va_rf g5, va_rf g6, .int g7, .int g8, .int g9, .int g10, .int g11, .int g12, va_rf g13]))) (hg : G g1 = some (.inr (3, [.int mc0, va_rf ed, .int n]))) : Met l yX15_isClass (lwC yX15_isClass cX15_isClass 2 (some .boolean)) (rD 3 0 0) (g_Pc D vwCl (gT ar) (EX1 κ) G sz [.ref y, .int cl]) (g_Qi D vwCl (g_A G sz) (fun r u => r = isW cl 0 (n - 1) ∧ u = (G, sz))) 0 0 (g_A G sz) := by
  refine g_ofW (by decide +kernel) (Nat.le_of_ble_eq_true rfl) ?_
  intro p e s m below meth c ls S hr hlk hin hE w hl
  have hx := S.1
  have hb := S.2.1
  have hl : lv_has ls 2 [(0, .ref y), (1, .int cl)] := hl
  have lt_hy : y < sz := g_ltn w hy
  have lt_hg : g1 < sz := g_ltn w hg
  refine lv_iload_n hx hb dX15_isClass_0 rfl (lv_at hl 1 rfl) ?_
  refine lv_iconst (v := 0) hx hb dX15_isClass_1 (by decide) ?_
  refine lv_aload_n hx hb dX15_isClass_2 rfl (lv_at hl 0 rfl) ?_
  refine gf_RX15_21_19 S hE w hy rfl dX15_isClass_3 ?_
  refine g_calli w (g_runV (As := []) (rest := [.int 0, .int cl]) S hE w hl (c_size l D ar κ G sz g1 mc0 ed n hg) (k_RX15_58 S.2.2.2.2 ⟨Nat.le_of_ble_eq_true rfl, Nat.le_of_ble_eq_true rfl⟩) hg rfl rfl rfl rfl (Nat.le_of_ble_eq_true rfl) dX15_isClass_6 ⟨Nat.le_of_ble_eq_true rfl, Nat.le_of_ble_eq_true rfl⟩) (fun r u H locs hp hnz w => ?_)
  obtain ⟨hr9, rfl⟩ := hp
  have hr9 := hr9.symm
  subst hr9
  dsimp only at w
  refine lv_iconst (v := 1) hx hb dX15_isClass_9 (by decide) ?_
  refine lv_isub hx hb dX15_isClass_10 ?_
  refine g_calli w (g_runS (As := [.int cl, .int 0, .int (n - 1)]) (rest := []) S hE w hl (c_isBetween l D ar κ G sz cl 0 (n - 1)) (k_RX15_62 S.2.2.2.2 ⟨Nat.le_of_ble_eq_true rfl, Nat.le_of_ble_eq_true rfl⟩) rfl rfl (Nat.le_of_ble_eq_true rfl) dX15_isClass_11 ⟨Nat.le_of_ble_eq_true rfl, Nat.le_of_ble_eq_true rfl⟩) (fun r u H locs hp hnz w => ?_)
  obtain ⟨rfl, rfl⟩ := hp
  dsimp only at w
  exact g_zret hx hb hr hlk w (Nat.le_of_ble_eq_true rfl) (Nat.le_of_ble_eq_true rfl) dX15_isClass_14 (isW_nar _ _ _) ⟨rfl, rfl⟩
set_option maxHeartbeats 4000000 in
set_option maxRecDepth 100000 in
theorem m_fields (l : Launch) (D : va_G) (ar : Nat → ClassId) (κ : Nat → Nat) (G : gW) (sz : Nat) (y : Nat) (a : Int32) (q : Nat) (t : Int32) (hM : FM ar κ G y q t) : Met l yX15_fields (lwC yX15_fields cX15_fields 2 (some .int)) (rD 5 0 0) (g_Pc D vwCl (gT ar) (EX1 κ) G sz [.ref y, .int a]) (g_Qi D vwCl (g_A G sz) (fun r u => ((K_cls a : Int32) = 0 → r = 0) ∧ TH y (K_cls a) u)) 0 0 (g_A G sz) := by
  refine g_ofW (by decide +kernel) (Nat.le_of_ble_eq_true rfl) ?_
  intro p e s m below meth c ls S hr hlk hin hE w hl
  have hx := S.1
  have hb := S.2.1
  have hl : lv_has ls 2 [(0, .ref y), (1, .int a)] := hl
  obtain ⟨hyq, m0, m1, m2, m3, m4, m5, m6, m7, m8, m9, m10, m11, m12, m13, m14⟩ := id hM
  have lt13 : q + 13 < sz := g_ltn w m14
  by_cases c0 : isB a 3 = 0
  · refine lv_aload_n hx hb dX15_fields_0 rfl (lv_at hl 0 rfl) ?_
    refine lv_aload_n hx hb dX15_fields_1 rfl (lv_at hl 0 rfl) ?_
    refine lv_iload_n hx hb dX15_fields_2 rfl (lv_at hl 1 rfl) ?_
    refine g_calli w (g_runV (As := [.int a]) (rest := [.ref y]) S hE w hl (c_isClass l D ar κ G sz y a (some q) (q + 1) (some (q + 2)) (some (q + 3)) (some (q + 4)) (some (q + 5)) (some (q + 6)) t 0 0 0 45 0 none 3 (some (q + 9)) 3 m0 m2) (k_RX15_66 S.2.2.2.2 ⟨Nat.le_of_ble_eq_true rfl, Nat.le_of_ble_eq_true rfl⟩) m0 rfl rfl rfl rfl (Nat.le_of_ble_eq_true rfl) dX15_fields_3 ⟨Nat.le_of_ble_eq_true rfl, Nat.le_of_ble_eq_true rfl⟩) (fun r u H locs hp hnz w => ?_)
    obtain ⟨rfl, rfl⟩ := hp
    rw [show (isW a 0 (3 - 1)) = isB a 3 from isW_B rfl (by decide) (by decide)]
    dsimp only at w
    refine lv_if_eq (tgt := 13) hx hb dX15_fields_6 (by decide) (fun _ => ?_) (fun c_6 => absurd c0 c_6)
    refine lv_iconst (v := 1) hx hb dX15_fields_13 (by decide) ?_
    refine g_calli w (g_runV (As := [.int 1]) (rest := []) S hE w hl (c_isWrong l D ar κ G sz y 1 (some q) (some (q + 1)) (some (q + 2)) (some (q + 3)) (some (q + 4)) (some (q + 5)) (some (q + 6)) t 0 0 0 45 0 none m0) (k_RX15_77 S.2.2.2.2 ⟨Nat.le_of_ble_eq_true rfl, Nat.le_of_ble_eq_true rfl⟩) m0 rfl rfl rfl rfl (Nat.le_of_ble_eq_true rfl) dX15_fields_14 ⟨Nat.le_of_ble_eq_true rfl, Nat.le_of_ble_eq_true rfl⟩) (fun r u H locs hp hnz w => ?_)
    obtain ⟨rfl, rfl⟩ := hp
    rw [show (if (1 : Int32) = 0 then (0 : Int32) else 1) = 1 from by decide]
    dsimp only at w
    refine lv_if_eq (tgt := 24) hx hb dX15_fields_17 (by decide) (fun c => absurd c (by decide)) (fun _ => ?_)
    refine lv_iconst (v := 0) hx hb dX15_fields_20 (by decide) ?_
    refine lv_goto (tgt := 38) hx hb dX15_fields_21 (by decide) ?_
    exact g_iret hx hb hr hlk w (Nat.le_of_ble_eq_true rfl) (Nat.le_of_ble_eq_true rfl) dX15_fields_38 ⟨(nz_first (T := 1) (by simp [K_cls, isB03, isB13, isB23, isPl0, isPl1, isPl2, c0]) (by decide)), TH_mk (T := 1) g_up_s rfl (by simp [K_cls, isB03, isB13, isB23, isPl0, isPl1, isPl2, c0])⟩
  rcases isB3 c0 with rfl | rfl | rfl
  · refine lv_aload_n hx hb dX15_fields_0 rfl (lv_at hl 0 rfl) ?_
    refine lv_aload_n hx hb dX15_fields_1 rfl (lv_at hl 0 rfl) ?_
    refine lv_iload_n hx hb dX15_fields_2 rfl (lv_at hl 1 rfl) ?_
    refine g_calli w (g_runV (As := [.int 0]) (rest := [.ref y]) S hE w hl (c_isClass l D ar κ G sz y 0 (some q) (q + 1) (some (q + 2)) (some (q + 3)) (some (q + 4)) (some (q + 5)) (some (q + 6)) t 0 0 0 45 0 none 3 (some (q + 9)) 3 m0 m2) (k_RX15_66 S.2.2.2.2 ⟨Nat.le_of_ble_eq_true rfl, Nat.le_of_ble_eq_true rfl⟩) m0 rfl rfl rfl rfl (Nat.le_of_ble_eq_true rfl) dX15_fields_3 ⟨Nat.le_of_ble_eq_true rfl, Nat.le_of_ble_eq_true rfl⟩) (fun r u H locs hp hnz w => ?_)
    obtain ⟨rfl, rfl⟩ := hp
    rw [show (isW 0 0 (3 - 1)) = 1 from by decide]
    dsimp only at w
    refine lv_if_eq (tgt := 13) hx hb dX15_fields_6 (by decide) (fun c => absurd c (by decide)) (fun _ => ?_)
    refine lv_iconst (v := 0) hx hb dX15_fields_9 (by decide) ?_
    refine lv_goto (tgt := 14) hx hb dX15_fields_10 (by decide) ?_
    refine g_calli w (g_runV (As := [.int 0]) (rest := []) S hE w hl (c_isWrong l D ar κ G sz y 0 (some q) (some (q + 1)) (some (q + 2)) (some (q + 3)) (some (q + 4)) (some (q + 5)) (some (q + 6)) t 0 0 0 45 0 none m0) (k_RX15_77 S.2.2.2.2 ⟨Nat.le_of_ble_eq_true rfl, Nat.le_of_ble_eq_true rfl⟩) m0 rfl rfl rfl rfl (Nat.le_of_ble_eq_true rfl) dX15_fields_14 ⟨Nat.le_of_ble_eq_true rfl, Nat.le_of_ble_eq_true rfl⟩) (fun r u H locs hp hnz w => ?_)
    obtain ⟨rfl, rfl⟩ := hp
    rw [show (if (0 : Int32) = 0 then (0 : Int32) else 1) = 0 from by decide]
    dsimp only at w
    refine lv_if_eq (tgt := 24) hx hb dX15_fields_17 (by decide) (fun _ => ?_) (fun c => absurd (by decide) c)
    refine lv_aload_n hx hb dX15_fields_24 rfl (lv_at hl 0 rfl) ?_
    refine gf_RX15_21_19 S hE w g_up_s rfl dX15_fields_25 ?_
    refine lv_iload_n hx hb dX15_fields_28 rfl (lv_at hl 1 rfl) ?_
    refine g_callq w (g_runV (As := [.int 0]) (rest := []) S hE w hl (c_get l D ar κ (g_up G y (.inr (19, [.ref q, .ref (q + 1), .ref (q + 2), .ref (q + 3), .ref (q + 4), .ref (q + 5), .ref (q + 6), .int 0, .int 0, .int 0, .int 0, .int 45, .int 0, .null]))) sz (q + 1) 0 3 (q + 9) 3 (va_up (va_up (va_up (fun _ => none) (Int32.toNatClampNeg 0) (some (q + 7))) (Int32.toNatClampNeg 1) (some (q + 10))) (Int32.toNatClampNeg 2) (some (q + 12))) (g_up_o (g_nx m2 m0 (by simp)) m2) (g_up_o (g_nx m10 m0 (by simp)) m10) (vp_in_nI (n := 0) (by decide) (by decide)) (by decide) (by decide)) (k_RX15_70 S.2.2.2.2 ⟨Nat.le_of_ble_eq_true rfl, Nat.le_of_ble_eq_true rfl⟩) (g_up_o (g_nx m2 m0 (by simp)) m2) rfl rfl rfl rfl (Nat.le_of_ble_eq_true rfl) dX15_fields_29 ⟨Nat.le_of_ble_eq_true rfl, Nat.le_of_ble_eq_true rfl⟩) (fun r u H locs hp hnz w => ?_)
    obtain ⟨rfl, rfl⟩ := hp
    rw [show (va_up (va_up (va_up (fun _ => none) (Int32.toNatClampNeg 0) (some (q + 7))) (Int32.toNatClampNeg 1) (some (q + 10))) (Int32.toNatClampNeg 2) (some (q + 12))) (Int32.toNatClampNeg 0) = some (q + 7) from rfl]
    show W p l e _ s m _ below meth c _ _ _ _ _ (F0 m _ ls (.ref (q + 7) :: _))
    dsimp only at w
    refine g_castS S hE w m_6_123 (g_up_o (g_nx m8 m0 (by simp)) m8) rfl rfl dX15_fields_32 ?_
    refine gf_RX15_74_14 S hE w (g_up_o (g_nx m8 m0 (by simp)) m8) rfl dX15_fields_35 ?_
    exact g_iret hx hb hr hlk w (Nat.le_of_ble_eq_true rfl) (Nat.le_of_ble_eq_true rfl) dX15_fields_38 ⟨(fun _ => rfl), TH_mk (T := 0) g_up_s rfl (by simp [K_cls, isB03, isB13, isB23, isPl0, isPl1, isPl2])⟩
  · refine lv_aload_n hx hb dX15_fields_0 rfl (lv_at hl 0 rfl) ?_
    refine lv_aload_n hx hb dX15_fields_1 rfl (lv_at hl 0 rfl) ?_
    refine lv_iload_n hx hb dX15_fields_2 rfl (lv_at hl 1 rfl) ?_
    refine g_calli w (g_runV (As := [.int 1]) (rest := [.ref y]) S hE w hl (c_isClass l D ar κ G sz y 1 (some q) (q + 1) (some (q + 2)) (some (q + 3)) (some (q + 4)) (some (q + 5)) (some (q + 6)) t 0 0 0 45 0 none 3 (some (q + 9)) 3 m0 m2) (k_RX15_66 S.2.2.2.2 ⟨Nat.le_of_ble_eq_true rfl, Nat.le_of_ble_eq_true rfl⟩) m0 rfl rfl rfl rfl (Nat.le_of_ble_eq_true rfl) dX15_fields_3 ⟨Nat.le_of_ble_eq_true rfl, Nat.le_of_ble_eq_true rfl⟩) (fun r u H locs hp hnz w => ?_)
    obtain ⟨rfl, rfl⟩ := hp
    rw [show (isW 1 0 (3 - 1)) = 1 from by decide]
    dsimp only at w
    refine lv_if_eq (tgt := 13) hx hb dX15_fields_6 (by decide) (fun c => absurd c (by decide)) (fun _ => ?_)
    refine lv_iconst (v := 0) hx hb dX15_fields_9 (by decide) ?_
    refine lv_goto (tgt := 14) hx hb dX15_fields_10 (by decide) ?_
    refine g_calli w (g_runV (As := [.int 0]) (rest := []) S hE w hl (c_isWrong l D ar κ G sz y 0 (some q) (some (q + 1)) (some (q + 2)) (some (q + 3)) (some (q + 4)) (some (q + 5)) (some (q + 6)) t 0 0 0 45 0 none m0) (k_RX15_77 S.2.2.2.2 ⟨Nat.le_of_ble_eq_true rfl, Nat.le_of_ble_eq_true rfl⟩) m0 rfl rfl rfl rfl (Nat.le_of_ble_eq_true rfl) dX15_fields_14 ⟨Nat.le_of_ble_eq_true rfl, Nat.le_of_ble_eq_true rfl⟩) (fun r u H locs hp hnz w => ?_)
    obtain ⟨rfl, rfl⟩ := hp
    rw [show (if (0 : Int32) = 0 then (0 : Int32) else 1) = 0 from by decide]
    dsimp only at w
    refine lv_if_eq (tgt := 24) hx hb dX15_fields_17 (by decide) (fun _ => ?_) (fun c => absurd (by decide) c)
    refine lv_aload_n hx hb dX15_fields_24 rfl (lv_at hl 0 rfl) ?_
    refine gf_RX15_21_19 S hE w g_up_s rfl dX15_fields_25 ?_
    refine lv_iload_n hx hb dX15_fields_28 rfl (lv_at hl 1 rfl) ?_
    refine g_callq w (g_runV (As := [.int 1]) (rest := []) S hE w hl (c_get l D ar κ (g_up G y (.inr (19, [.ref q, .ref (q + 1), .ref (q + 2), .ref (q + 3), .ref (q + 4), .ref (q + 5), .ref (q + 6), .int 0, .int 0, .int 0, .int 0, .int 45, .int 0, .null]))) sz (q + 1) 1 3 (q + 9) 3 (va_up (va_up (va_up (fun _ => none) (Int32.toNatClampNeg 0) (some (q + 7))) (Int32.toNatClampNeg 1) (some (q + 10))) (Int32.toNatClampNeg 2) (some (q + 12))) (g_up_o (g_nx m2 m0 (by simp)) m2) (g_up_o (g_nx m10 m0 (by simp)) m10) (vp_in_nI (n := 1) (by decide) (by decide)) (by decide) (by decide)) (k_RX15_70 S.2.2.2.2 ⟨Nat.le_of_ble_eq_true rfl, Nat.le_of_ble_eq_true rfl⟩) (g_up_o (g_nx m2 m0 (by simp)) m2) rfl rfl rfl rfl (Nat.le_of_ble_eq_true rfl) dX15_fields_29 ⟨Nat.le_of_ble_eq_true rfl, Nat.le_of_ble_eq_true rfl⟩) (fun r u H locs hp hnz w => ?_)
    obtain ⟨rfl, rfl⟩ := hp
    rw [show (va_up (va_up (va_up (fun _ => none) (Int32.toNatClampNeg 0) (some (q + 7))) (Int32.toNatClampNeg 1) (some (q + 10))) (Int32.toNatClampNeg 2) (some (q + 12))) (Int32.toNatClampNeg 1) = some (q + 10) from rfl]
    show W p l e _ s m _ below meth c _ _ _ _ _ (F0 m _ ls (.ref (q + 10) :: _))
    dsimp only at w
    refine g_castS S hE w m_6_123 (g_up_o (g_nx m11 m0 (by simp)) m11) rfl rfl dX15_fields_32 ?_
    refine gf_RX15_74_14 S hE w (g_up_o (g_nx m11 m0 (by simp)) m11) rfl dX15_fields_35 ?_
    exact g_iret hx hb hr hlk w (Nat.le_of_ble_eq_true rfl) (Nat.le_of_ble_eq_true rfl) dX15_fields_38 ⟨(fun _ => rfl), TH_mk (T := 0) g_up_s rfl (by simp [K_cls, isB03, isB13, isB23, isPl0, isPl1, isPl2])⟩
  · refine lv_aload_n hx hb dX15_fields_0 rfl (lv_at hl 0 rfl) ?_
    refine lv_aload_n hx hb dX15_fields_1 rfl (lv_at hl 0 rfl) ?_
    refine lv_iload_n hx hb dX15_fields_2 rfl (lv_at hl 1 rfl) ?_
    refine g_calli w (g_runV (As := [.int 2]) (rest := [.ref y]) S hE w hl (c_isClass l D ar κ G sz y 2 (some q) (q + 1) (some (q + 2)) (some (q + 3)) (some (q + 4)) (some (q + 5)) (some (q + 6)) t 0 0 0 45 0 none 3 (some (q + 9)) 3 m0 m2) (k_RX15_66 S.2.2.2.2 ⟨Nat.le_of_ble_eq_true rfl, Nat.le_of_ble_eq_true rfl⟩) m0 rfl rfl rfl rfl (Nat.le_of_ble_eq_true rfl) dX15_fields_3 ⟨Nat.le_of_ble_eq_true rfl, Nat.le_of_ble_eq_true rfl⟩) (fun r u H locs hp hnz w => ?_)
    obtain ⟨rfl, rfl⟩ := hp
    rw [show (isW 2 0 (3 - 1)) = 1 from by decide]
    dsimp only at w
    refine lv_if_eq (tgt := 13) hx hb dX15_fields_6 (by decide) (fun c => absurd c (by decide)) (fun _ => ?_)
    refine lv_iconst (v := 0) hx hb dX15_fields_9 (by decide) ?_
    refine lv_goto (tgt := 14) hx hb dX15_fields_10 (by decide) ?_
    refine g_calli w (g_runV (As := [.int 0]) (rest := []) S hE w hl (c_isWrong l D ar κ G sz y 0 (some q) (some (q + 1)) (some (q + 2)) (some (q + 3)) (some (q + 4)) (some (q + 5)) (some (q + 6)) t 0 0 0 45 0 none m0) (k_RX15_77 S.2.2.2.2 ⟨Nat.le_of_ble_eq_true rfl, Nat.le_of_ble_eq_true rfl⟩) m0 rfl rfl rfl rfl (Nat.le_of_ble_eq_true rfl) dX15_fields_14 ⟨Nat.le_of_ble_eq_true rfl, Nat.le_of_ble_eq_true rfl⟩) (fun r u H locs hp hnz w => ?_)
    obtain ⟨rfl, rfl⟩ := hp
    rw [show (if (0 : Int32) = 0 then (0 : Int32) else 1) = 0 from by decide]
    dsimp only at w
    refine lv_if_eq (tgt := 24) hx hb dX15_fields_17 (by decide) (fun _ => ?_) (fun c => absurd (by decide) c)
    refine lv_aload_n hx hb dX15_fields_24 rfl (lv_at hl 0 rfl) ?_
    refine gf_RX15_21_19 S hE w g_up_s rfl dX15_fields_25 ?_
    refine lv_iload_n hx hb dX15_fields_28 rfl (lv_at hl 1 rfl) ?_
    refine g_callq w (g_runV (As := [.int 2]) (rest := []) S hE w hl (c_get l D ar κ (g_up G y (.inr (19, [.ref q, .ref (q + 1), .ref (q + 2), .ref (q + 3), .ref (q + 4), .ref (q + 5), .ref (q + 6), .int 0, .int 0, .int 0, .int 0, .int 45, .int 0, .null]))) sz (q + 1) 2 3 (q + 9) 3 (va_up (va_up (va_up (fun _ => none) (Int32.toNatClampNeg 0) (some (q + 7))) (Int32.toNatClampNeg 1) (some (q + 10))) (Int32.toNatClampNeg 2) (some (q + 12))) (g_up_o (g_nx m2 m0 (by simp)) m2) (g_up_o (g_nx m10 m0 (by simp)) m10) (vp_in_nI (n := 2) (by decide) (by decide)) (by decide) (by decide)) (k_RX15_70 S.2.2.2.2 ⟨Nat.le_of_ble_eq_true rfl, Nat.le_of_ble_eq_true rfl⟩) (g_up_o (g_nx m2 m0 (by simp)) m2) rfl rfl rfl rfl (Nat.le_of_ble_eq_true rfl) dX15_fields_29 ⟨Nat.le_of_ble_eq_true rfl, Nat.le_of_ble_eq_true rfl⟩) (fun r u H locs hp hnz w => ?_)
    obtain ⟨rfl, rfl⟩ := hp
    rw [show (va_up (va_up (va_up (fun _ => none) (Int32.toNatClampNeg 0) (some (q + 7))) (Int32.toNatClampNeg 1) (some (q + 10))) (Int32.toNatClampNeg 2) (some (q + 12))) (Int32.toNatClampNeg 2) = some (q + 12) from rfl]
    show W p l e _ s m _ below meth c _ _ _ _ _ (F0 m _ ls (.ref (q + 12) :: _))
    dsimp only at w
    refine g_castS S hE w m_6_123 (g_up_o (g_nx m13 m0 (by simp)) m13) rfl rfl dX15_fields_32 ?_
    refine gf_RX15_74_14 S hE w (g_up_o (g_nx m13 m0 (by simp)) m13) rfl dX15_fields_35 ?_
    exact g_iret hx hb hr hlk w (Nat.le_of_ble_eq_true rfl) (Nat.le_of_ble_eq_true rfl) dX15_fields_38 ⟨(fun _ => rfl), TH_mk (T := 0) g_up_s rfl (by simp [K_cls, isB03, isB13, isB23, isPl0, isPl1, isPl2])⟩
