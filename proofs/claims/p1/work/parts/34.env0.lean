section SITES
variable {p : Program} {l : Launch} {e : Env} {R : Room} {s : State} {m : MethodId} {args : Array Value} {below : List Frame} {meth : Method} {c : Code} {H : Heap} {locs : List Loc} {cells slots : Nat} {Q : State → Prop}
variable {pc : Nat} {ls : Array Slot} {rest : List Value} {D : va_G} {ar : Nat → ClassId} {κ : Nat → Nat} {A : Nat → Prop} {a : Nat} {H0 : Heap} {G : gW} {nz nL : Nat} {cc : ByteArray}
theorem inA_RJ0 : ∀ w ∈ u_ws RJ0 TJ0 2, w ∈ lwA := gA_r _ [603, 605] (by decide +kernel) (by decide +kernel)
theorem inA_RJx00060 : ∀ w ∈ u_ws RJx00060 TJx00060 6, w ∈ lwA := gA_r _ [569, 571, 573, 575, 577, 579] (by decide +kernel) (by decide +kernel)
theorem inA_RX2 : ∀ w ∈ u_ws RX2 TX2 1, w ∈ lwA := gA_r _ [1139] (by decide +kernel) (by decide +kernel)
theorem inA_RX9 : ∀ w ∈ u_ws RX9 TX9 6, w ∈ lwA := gA_r _ [1905, 1907, 1909, 1911, 1913, 1915] (by decide +kernel) (by decide +kernel)
end SITES
theorem bL {a c : Cond} {A : Array Value} {s : State} (h : (Cond.and a c).before A s = true) : a.before A s = true := by
  rw [Cond.before_and, Bool.and_eq_true] at h
  exact h.1
theorem bR {a c : Cond} {A : Array Value} {s : State} (h : (Cond.and a c).before A s = true) : c.before A s = true := by
  rw [Cond.before_and, Bool.and_eq_true] at h
  exact h.2
theorem mN_1 {w : Cond} (hg : g_nw w = true) {A : Array Value} {s : State} (h : w.before A s = true) : va_Nw w s := by
  cases w with
  | arrayOver t =>
    cases t with
    | object C => exact h
    | _ => cases hg
  | _ => first | (cases hg; done) | exact va_Nw.of rfl h | exact va_any rfl h
theorem mN_all : ∀ w ∈ lwN, w ∈ lw_tbl ∧ g_nw w = true := by
  have e : lwN = lw_tbl.filter g_nw := by decide +kernel
  intro w hw
  rw [e] at hw
  exact List.mem_filter.mp hw
def g_sr : Cond → Bool
  | .stringRef _ _ _ => true
  | _ => false
theorem mS_all : ∀ q ∈ lwS, Cond.stringRef q.1 q.2.1 q.2.2 ∈ lw_tbl := by
  have e : lwS.map (fun q => Cond.stringRef q.1 q.2.1 q.2.2) = lw_tbl.filter g_sr := by decide +kernel
  intro q hq
  have h : Cond.stringRef q.1 q.2.1 q.2.2 ∈ lwS.map (fun q => Cond.stringRef q.1 q.2.1 q.2.2) := List.mem_map.mpr ⟨q, hq, rfl⟩
  rw [e] at h
  exact (List.mem_filter.mp h).1
theorem mS_ex {s : State} {b : Nat} (hgv : (Jvm.Cond.and given_1 narrow_1).before #[Value.ref b] s = true) : ∀ q ∈ lwS, (Cond.exactly (.string q.1 q.2.1) "java/lang/String").before #[Value.ref b] s = true :=
  List.forall_mem_cons.mpr ⟨(bR (bL (bL (bL (bL (bR (bL (bL (bR (bL (bR hgv))))))))))), List.forall_mem_cons.mpr ⟨(bL (bR (bL (bL (bR (bR (bL (bL (bR (bL (bR hgv))))))))))), List.forall_mem_cons.mpr ⟨(bR (bR (bR (bR (bL (bL (bR (bL (bR (bL (bR hgv))))))))))), List.forall_mem_cons.mpr ⟨(bL (bL (bR (bR (bL (bR (bR (bL (bR (bL (bR hgv))))))))))), List.forall_mem_cons.mpr ⟨(bL (bR (bR (bR (bR (bR (bR (bL (bR (bL (bR hgv))))))))))), List.forall_mem_cons.mpr ⟨(bL (bL (bL (bR (bR (bL (bL (bR (bR (bL (bR hgv))))))))))), List.forall_mem_cons.mpr ⟨(bR (bL (bR (bL (bR (bR (bL (bR (bR (bL (bR hgv))))))))))), List.forall_mem_cons.mpr ⟨(bR (bR (bL (bL (bR (bL (bR (bR (bR (bL (bR hgv))))))))))), List.forall_mem_cons.mpr ⟨(bL (bL (bR (bL (bL (bR (bR (bR (bR (bL (bR hgv))))))))))), List.forall_mem_cons.mpr ⟨(bR (bR (bR (bR (bR (bR (bR (bR (bR (bL (bR hgv))))))))))), List.forall_mem_cons.mpr ⟨(bL (bR (bR (bL (bR (bL (bL (bL (bL (bR (bR hgv))))))))))), List.forall_mem_cons.mpr ⟨(bL (bL (bL (bR (bL (bR (bL (bL (bL (bR (bR hgv))))))))))), List.forall_mem_cons.mpr ⟨(bR (bR (bL (bL (bL (bL (bR (bL (bL (bR (bR hgv))))))))))), List.forall_mem_cons.mpr ⟨(bL (bR (bL (bL (bL (bR (bR (bL (bL (bR (bR hgv))))))))))), List.forall_mem_cons.mpr ⟨(bL (bR (bR (bR (bR (bR (bR (bL (bL (bR (bR hgv))))))))))), List.forall_mem_cons.mpr ⟨(bL (bL (bL (bR (bR (bL (bL (bR (bL (bR (bR hgv))))))))))), List.forall_mem_cons.mpr ⟨(bL (bR (bL (bL (bL (bL (bR (bR (bL (bR (bR hgv))))))))))), List.forall_mem_cons.mpr ⟨(bL (bL (bL (bL (bL (bR (bR (bR (bL (bR (bR hgv))))))))))), List.forall_mem_cons.mpr ⟨(bL (bL (bL (bL (bR (bR (bR (bR (bL (bR (bR hgv))))))))))), List.forall_mem_cons.mpr ⟨(bR (bR (bL (bL (bL (bL (bL (bL (bR (bR (bR hgv))))))))))), List.forall_mem_cons.mpr ⟨(bL (bL (bR (bL (bR (bL (bL (bL (bR (bR (bR hgv))))))))))), List.forall_mem_cons.mpr ⟨(bR (bR (bL (bR (bL (bR (bL (bL (bR (bR (bR hgv))))))))))), List.forall_mem_cons.mpr ⟨(bL (bL (bL (bL (bL (bL (bR (bL (bR (bR (bR hgv))))))))))), List.forall_mem_cons.mpr ⟨(bR (bL (bL (bR (bR (bL (bR (bL (bR (bR (bR hgv))))))))))), List.forall_mem_cons.mpr ⟨(bL (bR (bL (bR (bL (bR (bR (bL (bR (bR (bR hgv))))))))))), List.forall_mem_cons.mpr ⟨(bR (bR (bR (bL (bL (bL (bL (bR (bR (bR (bR hgv))))))))))), List.forall_mem_cons.mpr ⟨(bL (bL (bL (bR (bR (bL (bL (bR (bR (bR (bR hgv))))))))))), List.forall_mem_cons.mpr ⟨(bR (bR (bR (bR (bL (bR (bL (bR (bR (bR (bR hgv))))))))))), List.forall_mem_cons.mpr ⟨(bR (bL (bR (bR (bL (bL (bR (bR (bR (bR (bR hgv))))))))))), List.forall_mem_cons.mpr ⟨(bR (bR (bR (bL (bR (bL (bR (bR (bR (bR (bR hgv))))))))))), List.forall_mem_cons.mpr ⟨(bL (bL (bR (bL (bL (bR (bR (bR (bR (bR (bR hgv))))))))))), List.forall_mem_cons.mpr ⟨(bL (bL (bL (bL (bR (bR (bR (bR (bR (bR (bR hgv))))))))))), List.forall_mem_cons.mpr ⟨(bL (bL (bL (bR (bR (bR (bR (bR (bR (bR (bR hgv))))))))))), fun _ h => absurd h List.not_mem_nil⟩⟩⟩⟩⟩⟩⟩⟩⟩⟩⟩⟩⟩⟩⟩⟩⟩⟩⟩⟩⟩⟩⟩⟩⟩⟩⟩⟩⟩⟩⟩⟩⟩
theorem mD_all {s : State} {b : Nat} (hgv : (Jvm.Cond.and given_1 narrow_1).before #[Value.ref b] s = true) : ∀ q ∈ lwD, (Cond.not (.castable q.1 q.2)).before #[Value.ref b] s = true :=
  List.forall_mem_cons.mpr ⟨(bR (bL (bL (bR (bR (bL (bL (bL (bL (bL (bR hgv))))))))))), List.forall_mem_cons.mpr ⟨(bL (bR (bL (bR (bR (bL (bL (bL (bL (bL (bR hgv))))))))))), List.forall_mem_cons.mpr ⟨(bR (bL (bR (bR (bR (bL (bL (bL (bL (bL (bR hgv))))))))))), List.forall_mem_cons.mpr ⟨(bR (bR (bR (bR (bR (bL (bL (bL (bL (bL (bR hgv))))))))))), List.forall_mem_cons.mpr ⟨(bL (bL (bR (bL (bL (bR (bL (bL (bL (bL (bR hgv))))))))))), List.forall_mem_cons.mpr ⟨(bL (bL (bL (bL (bR (bR (bL (bL (bL (bL (bR hgv))))))))))), List.forall_mem_cons.mpr ⟨(bR (bL (bL (bL (bR (bR (bL (bL (bL (bL (bR hgv))))))))))), List.forall_mem_cons.mpr ⟨(bL (bR (bL (bL (bR (bR (bL (bL (bL (bL (bR hgv))))))))))), List.forall_mem_cons.mpr ⟨(bR (bL (bR (bL (bR (bR (bL (bL (bL (bL (bR hgv))))))))))), List.forall_mem_cons.mpr ⟨(bR (bR (bR (bL (bR (bR (bL (bL (bL (bL (bR hgv))))))))))), List.forall_mem_cons.mpr ⟨(bL (bL (bR (bR (bR (bR (bL (bL (bL (bL (bR hgv))))))))))), List.forall_mem_cons.mpr ⟨(bL (bL (bL (bR (bL (bL (bR (bL (bL (bL (bR hgv))))))))))), List.forall_mem_cons.mpr ⟨(bR (bL (bL (bR (bL (bL (bR (bL (bL (bL (bR hgv))))))))))), List.forall_mem_cons.mpr ⟨(bL (bR (bL (bR (bL (bL (bR (bL (bL (bL (bR hgv))))))))))), List.forall_mem_cons.mpr ⟨(bR (bL (bR (bR (bL (bL (bR (bL (bL (bL (bR hgv))))))))))), List.forall_mem_cons.mpr ⟨(bR (bR (bR (bR (bL (bL (bR (bL (bL (bL (bR hgv))))))))))), List.forall_mem_cons.mpr ⟨(bL (bL (bR (bL (bR (bL (bR (bL (bL (bL (bR hgv))))))))))), List.forall_mem_cons.mpr ⟨(bL (bL (bL (bL (bL (bR (bR (bL (bL (bL (bR hgv))))))))))), List.forall_mem_cons.mpr ⟨(bR (bL (bL (bL (bL (bR (bR (bL (bL (bL (bR hgv))))))))))), List.forall_mem_cons.mpr ⟨(bL (bR (bL (bL (bL (bR (bR (bL (bL (bL (bR hgv))))))))))), List.forall_mem_cons.mpr ⟨(bR (bR (bL (bL (bL (bR (bR (bL (bL (bL (bR hgv))))))))))), List.forall_mem_cons.mpr ⟨(bR (bR (bR (bL (bL (bR (bR (bL (bL (bL (bR hgv))))))))))), List.forall_mem_cons.mpr ⟨(bL (bL (bR (bR (bL (bR (bR (bL (bL (bL (bR hgv))))))))))), List.forall_mem_cons.mpr ⟨(bL (bL (bL (bR (bR (bR (bR (bL (bL (bL (bR hgv))))))))))), List.forall_mem_cons.mpr ⟨(bR (bL (bL (bR (bR (bR (bR (bL (bL (bL (bR hgv))))))))))), List.forall_mem_cons.mpr ⟨(bL (bR (bL (bR (bR (bR (bR (bL (bL (bL (bR hgv))))))))))), List.forall_mem_cons.mpr ⟨(bR (bR (bL (bR (bR (bR (bR (bL (bL (bL (bR hgv))))))))))), List.forall_mem_cons.mpr ⟨(bL (bR (bR (bR (bR (bR (bR (bL (bL (bL (bR hgv))))))))))), List.forall_mem_cons.mpr ⟨(bL (bL (bR (bL (bL (bL (bL (bR (bL (bL (bR hgv))))))))))), List.forall_mem_cons.mpr ⟨(bL (bL (bL (bL (bR (bL (bL (bR (bL (bL (bR hgv))))))))))), List.forall_mem_cons.mpr ⟨(bR (bL (bL (bL (bR (bL (bL (bR (bL (bL (bR hgv))))))))))), List.forall_mem_cons.mpr ⟨(bL (bR (bL (bL (bR (bL (bL (bR (bL (bL (bR hgv))))))))))), List.forall_mem_cons.mpr ⟨(bR (bR (bL (bL (bR (bL (bL (bR (bL (bL (bR hgv))))))))))), List.forall_mem_cons.mpr ⟨(bL (bR (bR (bL (bR (bL (bL (bR (bL (bL (bR hgv))))))))))), List.forall_mem_cons.mpr ⟨(bL (bL (bL (bR (bR (bL (bL (bR (bL (bL (bR hgv))))))))))), fun _ h => absurd h List.not_mem_nil⟩⟩⟩⟩⟩⟩⟩⟩⟩⟩⟩⟩⟩⟩⟩⟩⟩⟩⟩⟩⟩⟩⟩⟩⟩⟩⟩⟩⟩⟩⟩⟩⟩⟩⟩
theorem mF_all {s : State} {b : Nat} (hts : ∀ w ∈ lw_tbl, w.before #[Value.ref b] s = true) : ∀ q ∈ lwF, va_Fw q.1 q.2.1 q.2.2 s := by
  intro q hq
  simp only [lwF, List.mem_cons, List.not_mem_nil, or_false] at hq
  rcases hq with rfl | rfl | rfl
  · exact va_Fw.of (hts _ (ck_7 _ (List.mem_of_getElem? (i := 147) rfl))) (hts _ (ck_7 _ (List.mem_of_getElem? (i := 146) rfl))) (hts _ (ck_7 _ (List.mem_of_getElem? (i := 152) rfl))) (hts _ (ck_7 _ (List.mem_of_getElem? (i := 150) rfl))) (hts _ (ck_7 _ (List.mem_of_getElem? (i := 148) rfl)))
  · exact va_Fw.of (hts _ (ck_7 _ (List.mem_of_getElem? (i := 238) rfl))) (hts _ (ck_7 _ (List.mem_of_getElem? (i := 237) rfl))) (hts _ (ck_8 _ (List.mem_of_getElem? (i := 3) rfl))) (hts _ (ck_8 _ (List.mem_of_getElem? (i := 1) rfl))) (hts _ (ck_7 _ (List.mem_of_getElem? (i := 239) rfl)))
  · exact va_Fw.of (hts _ (ck_8 _ (List.mem_of_getElem? (i := 8) rfl))) (hts _ (ck_8 _ (List.mem_of_getElem? (i := 7) rfl))) (hts _ (ck_8 _ (List.mem_of_getElem? (i := 12) rfl))) (hts _ (ck_8 _ (List.mem_of_getElem? (i := 10) rfl))) (hts _ (ck_7 _ (List.mem_of_getElem? (i := 239) rfl)))
theorem mB_el {s : State} {b : Nat} (hgv : (Jvm.Cond.and given_1 narrow_1).before #[Value.ref b] s = true) (j : Nat) (hj : j < 26) : (Cond.eq (.elem (.field (.string "SendhouseModel" 80) "java/lang/String" "value" "[B") (.int (Int32.ofNat j))) (.int ((([[110, 117, 115, 97, 116, 102, 103, 84, 70, 71, 100, 112, 43, 45, 42, 47, 60, 61, 107, 99, 109, 77, 106, 121, 114, 119]] : List (List Int32)).getD 0 []).getD j 0))).before #[Value.ref b] s = true :=
  match j, hj with
  | 0, _ => (bR (bR (bL (bL (bR (bR (bL (bR (bR (bR (bR hgv)))))))))))
  | 1, _ => (bL (bL (bR (bL (bR (bR (bL (bR (bR (bR (bR hgv)))))))))))
  | 2, _ => (bR (bL (bR (bL (bR (bR (bL (bR (bR (bR (bR hgv)))))))))))
  | 3, _ => (bL (bR (bR (bL (bR (bR (bL (bR (bR (bR (bR hgv)))))))))))
  | 4, _ => (bR (bR (bR (bL (bR (bR (bL (bR (bR (bR (bR hgv)))))))))))
  | 5, _ => (bL (bL (bL (bR (bR (bR (bL (bR (bR (bR (bR hgv)))))))))))
  | 6, _ => (bR (bL (bL (bR (bR (bR (bL (bR (bR (bR (bR hgv)))))))))))
  | 7, _ => (bL (bR (bL (bR (bR (bR (bL (bR (bR (bR (bR hgv)))))))))))
  | 8, _ => (bR (bR (bL (bR (bR (bR (bL (bR (bR (bR (bR hgv)))))))))))
  | 9, _ => (bL (bL (bR (bR (bR (bR (bL (bR (bR (bR (bR hgv)))))))))))
  | 10, _ => (bR (bL (bR (bR (bR (bR (bL (bR (bR (bR (bR hgv)))))))))))
  | 11, _ => (bL (bR (bR (bR (bR (bR (bL (bR (bR (bR (bR hgv)))))))))))
  | 12, _ => (bR (bR (bR (bR (bR (bR (bL (bR (bR (bR (bR hgv)))))))))))
  | 13, _ => (bL (bL (bL (bL (bL (bL (bR (bR (bR (bR (bR hgv)))))))))))
  | 14, _ => (bR (bL (bL (bL (bL (bL (bR (bR (bR (bR (bR hgv)))))))))))
  | 15, _ => (bL (bR (bL (bL (bL (bL (bR (bR (bR (bR (bR hgv)))))))))))
  | 16, _ => (bR (bR (bL (bL (bL (bL (bR (bR (bR (bR (bR hgv)))))))))))
  | 17, _ => (bL (bL (bR (bL (bL (bL (bR (bR (bR (bR (bR hgv)))))))))))
  | 18, _ => (bR (bL (bR (bL (bL (bL (bR (bR (bR (bR (bR hgv)))))))))))
  | 19, _ => (bL (bR (bR (bL (bL (bL (bR (bR (bR (bR (bR hgv)))))))))))
  | 20, _ => (bR (bR (bR (bL (bL (bL (bR (bR (bR (bR (bR hgv)))))))))))
  | 21, _ => (bL (bL (bL (bR (bL (bL (bR (bR (bR (bR (bR hgv)))))))))))
  | 22, _ => (bR (bL (bL (bR (bL (bL (bR (bR (bR (bR (bR hgv)))))))))))
  | 23, _ => (bL (bR (bL (bR (bL (bL (bR (bR (bR (bR (bR hgv)))))))))))
  | 24, _ => (bR (bR (bL (bR (bL (bL (bR (bR (bR (bR (bR hgv)))))))))))
  | 25, _ => (bL (bL (bR (bR (bL (bL (bR (bR (bR (bR (bR hgv)))))))))))
  | k + 26, h => absurd h (by omega)
theorem EX1_0 {s : State} {b : Nat} (hts : ∀ w ∈ lw_tbl, w.before #[Value.ref b] s = true) (hgv : (Jvm.Cond.and given_1 narrow_1).before #[Value.ref b] s = true) : ∃ κ : Nat → Nat, EX1 κ (fun q => s.heap.size ≤ q) s s.heap := by
  have hA : ∀ a : Nat, a < s.heap.size → ¬ (fun q : Nat => s.heap.size ≤ q) a := fun a h => Nat.not_le.mpr h
  obtain ⟨t0, ht0, hT0⟩ := va_Tof (args := #[Value.ref b]) (s := s) (tm := (Term.static "java/util/ArrayList" "DEFAULTCAPACITY_EMPTY_ELEMENTDATA" "[Ljava/lang/Object;")) (ty := .object "java/lang/Object") (N := 0) (f := fun _ => .null) (A := fun q : Nat => s.heap.size ≤ q) (by decide) (bL (bL (bR (bL (bL (bL (bL (bL (bL (bL (bR hgv))))))))))) (va_eqt (bL (bR (bR (bL (bL (bL (bL (bL (bL (bL (bR hgv)))))))))))) (fun j hj => absurd hj (Nat.not_lt_zero j)) hA
  have hZ0 := va_Zref (hts _ (ck_1 _ (List.mem_of_getElem? (i := 178) rfl))) (hts _ (ck_1 _ (List.mem_of_getElem? (i := 9) rfl))) ht0 hA
  have hO0 : va_O "[Ljava/lang/Object;" t0 (fun q : Nat => s.heap.size ≤ q) s s.heap := va_Oof (bR (bL (bR (bL (bL (bL (bL (bL (bL (bL (bR hgv))))))))))) ht0 hA
  obtain ⟨mi, hmi⟩ := va_Mi.of (args := #[Value.ref b]) (s := s) (C := "[Ljava/lang/Object;") (bL (bL (bL (bL (bL (bR (bL (bL (bR (bL (bR hgv)))))))))))
  have hZ1 : va_Z "java/lang/String" "COMPACT_STRINGS" "Z" (.int 1) (fun q : Nat => s.heap.size ≤ q) s s.heap := va_Zof (hts _ (ck_6 _ (List.mem_of_getElem? (i := 235) rfl))) (hts _ (ck_1 _ (List.mem_of_getElem? (i := 23) rfl))) (va_eqt (bR (bL (bL (bR (bL (bL (bL (bL (bL (bL (bR hgv)))))))))))) hA
  obtain ⟨adK, adV, hKS, hev⟩ := vk_Sof (args := #[Value.ref b]) (s := s) (N := 1) (tm := fun _ => .string "SendhouseModel" 80) (len := [26]) (byt := [[110, 117, 115, 97, 116, 102, 103, 84, 70, 71, 100, 112, 43, 45, 42, 47, 60, 61, 107, 99, 109, 77, 106, 121, 114, 119]]) (A := fun q : Nat => s.heap.size ≤ q)
    (fun i hi => by rcases (show i = 0 by omega) with rfl; decide) (fun i hi => (bR (bR (bR (bR (bL (bR (bL (bR (bR (bR (bR hgv)))))))))))) (fun i hi => (bL (bL (bL (bL (bR (bR (bL (bR (bR (bR (bR hgv)))))))))))) (fun i hi => (bR (bL (bL (bL (bR (bR (bL (bR (bR (bR (bR hgv)))))))))))) (fun i hi => by rcases (show i = 0 by omega) with rfl; exact (bL (bR (bL (bL (bR (bR (bL (bR (bR (bR (bR hgv))))))))))))
    (fun i hi j hj => by rcases (show i = 0 by omega) with rfl; exact mB_el hgv j hj) (fun i j hi hj hij => absurd (show i = j by omega) hij) hA
  refine ⟨fun k => if k = 0 then t0 else if k = 1 then adK 0 else if k = 2 then adV 0 else mi, ⟨fun w hw => mN_1 (mN_all w hw).2 (hts w (mN_all w hw).1), mF_all hts, fun q hq => va_Nc.of (mD_all hgv q hq)⟩,
    ⟨vx_Zqof (hts _ (ck_2 _ (List.mem_of_getElem? (i := 236) rfl))) (hts _ (ck_1 _ (List.mem_of_getElem? (i := 18) rfl))) (bR (bR (bR (bL (bL (bL (bL (bL (bL (bL (bR hgv))))))))))) hA, vx_Zqof (hts _ (ck_2 _ (List.mem_of_getElem? (i := 238) rfl))) (hts _ (ck_1 _ (List.mem_of_getElem? (i := 18) rfl))) (bL (bL (bL (bR (bL (bL (bL (bL (bL (bL (bR hgv))))))))))) hA⟩,
    fun q hq => ?_, ⟨hZ0, hT0, hO0, hmi⟩, hZ1, vk_R.of (hts _ (ck_6 _ (List.mem_of_getElem? (i := 221) rfl))) (hev 0 (by decide)), ⟨fun i hi => ?_, fun i j hi hj _ => by omega⟩⟩
  · obtain ⟨a, c, cA, kA, q1, -⟩ := Cond.exactly_spec (args := #[Value.ref b]) (first := s) (o := none) (s := s) (idx := []) (t := .string q.1 q.2.1) (cls := "java/lang/String") (mS_ex hgv q hq)
    exact ⟨a, vk_R.of (hts _ (mS_all q hq)) q1⟩
  · rcases (show i = 0 by omega) with rfl
    exact hKS.1 0 (by decide)
theorem K_0 {s : State} {b : Nat} (hts : ∀ w ∈ lw_tbl, w.before #[Value.ref b] s = true) : ∃ (D : va_G) (ar : Nat → ClassId), va_K D vwCl (gT ar) s := by
  obtain ⟨c0, i0, h0⟩ := u_known (C := RJ0) (T := TJ0) (N := 2) (n := 4) hts (fun w h => lwA_in _ (inA_RJ0 w h)) (hts (.instantiable RJ0 4) (ck_3 _ (List.mem_of_getElem? (i := 52) rfl)))
  obtain ⟨c1, i1, h1⟩ := u_known (C := RJx00060) (T := TJx00060) (N := 6) (n := 6) hts (fun w h => lwA_in _ (inA_RJx00060 w h)) (hts (.instantiable RJx00060 6) (ck_2 _ (List.mem_of_getElem? (i := 219) rfl)))
  obtain ⟨c2, i2, h2⟩ := u_known (C := RJx35411) (T := TJx35411) (N := 4) (n := 4) hts (fun w h => lwA_in _ (inA_RJx35411 w h)) (hts (.instantiable RJx35411 4) (ck_7 _ (List.mem_of_getElem? (i := 217) rfl)))
  obtain ⟨c3, i3, h3⟩ := u_known (C := RJx4a65c) (T := TJx4a65c) (N := 3) (n := 3) hts (fun w h => lwA_in _ (inA_RJx4a65c w h)) (hts (.instantiable RJx4a65c 3) (ck_1 _ (List.mem_of_getElem? (i := 166) rfl)))
  obtain ⟨c4, i4, h4⟩ := u_known (C := RX0) (T := TX0) (N := 3) (n := 3) hts (fun w h => lwA_in _ (inA_RX0 w h)) (hts (.instantiable RX0 3) (ck_1 _ (List.mem_of_getElem? (i := 50) rfl)))
  obtain ⟨c5, i5, h5⟩ := u_known (C := RX1) (T := TX1) (N := 7) (n := 7) hts (fun w h => lwA_in _ (inA_RX1 w h)) (hts (.instantiable RX1 7) (ck_1 _ (List.mem_of_getElem? (i := 213) rfl)))
  obtain ⟨c6, i6, h6⟩ := u_known (C := RX2) (T := TX2) (N := 1) (n := 1) hts (fun w h => lwA_in _ (inA_RX2 w h)) (hts (.instantiable RX2 1) (ck_5 _ (List.mem_of_getElem? (i := 103) rfl)))
  obtain ⟨c7, i7, h7⟩ := u_known (C := RX3) (T := TX3) (N := 7) (n := 7) hts (fun w h => lwA_in _ (inA_RX3 w h)) (hts (.instantiable RX3 7) (ck_1 _ (List.mem_of_getElem? (i := 70) rfl)))
  obtain ⟨c8, i8, h8⟩ := u_known (C := RX4) (T := TX4) (N := 5) (n := 5) hts (fun w h => lwA_in _ (inA_RX4 w h)) (hts (.instantiable RX4 5) (ck_1 _ (List.mem_of_getElem? (i := 108) rfl)))
  obtain ⟨c9, i9, h9⟩ := u_known (C := RX5) (T := TX5) (N := 5) (n := 5) hts (fun w h => lwA_in _ (inA_RX5 w h)) (hts (.instantiable RX5 5) (ck_1 _ (List.mem_of_getElem? (i := 101) rfl)))
  obtain ⟨c10, i10, h10⟩ := u_known (C := RX6) (T := TX6) (N := 7) (n := 7) hts (fun w h => lwA_in _ (inA_RX6 w h)) (hts (.instantiable RX6 7) (ck_3 _ (List.mem_of_getElem? (i := 163) rfl)))
  obtain ⟨c11, i11, h11⟩ := u_known (C := RX7) (T := TX7) (N := 4) (n := 4) hts (fun w h => lwA_in _ (inA_RX7 w h)) (hts (.instantiable RX7 4) (ck_1 _ (List.mem_of_getElem? (i := 160) rfl)))
  obtain ⟨c12, i12, h12⟩ := u_known (C := RX8) (T := TX8) (N := 13) (n := 13) hts (fun w h => lwA_in _ (inA_RX8 w h)) (hts (.instantiable RX8 13) (ck_1 _ (List.mem_of_getElem? (i := 42) rfl)))
  obtain ⟨c13, i13, h13⟩ := u_known (C := RX9) (T := TX9) (N := 6) (n := 6) hts (fun w h => lwA_in _ (inA_RX9 w h)) (hts (.instantiable RX9 6) (ck_8 _ (List.mem_of_getElem? (i := 136) rfl)))
  obtain ⟨c14, i14, h14⟩ := u_known (C := RX10) (T := TX10) (N := 3) (n := 3) hts (fun w h => lwA_in _ (inA_RX10 w h)) (hts (.instantiable RX10 3) (ck_6 _ (List.mem_of_getElem? (i := 124) rfl)))
  obtain ⟨c15, i15, h15⟩ := u_known (C := RX11) (T := TX11) (N := 8) (n := 8) hts (fun w h => lwA_in _ (inA_RX11 w h)) (hts (.instantiable RX11 8) (ck_7 _ (List.mem_of_getElem? (i := 100) rfl)))
  obtain ⟨c16, i16, h16⟩ := u_known (C := RX12) (T := TX12) (N := 3) (n := 3) hts (fun w h => lwA_in _ (inA_RX12 w h)) (hts (.instantiable RX12 3) (ck_7 _ (List.mem_of_getElem? (i := 65) rfl)))
  obtain ⟨c17, i17, h17⟩ := u_known (C := RX13) (T := TX13) (N := 4) (n := 4) hts (fun w h => lwA_in _ (inA_RX13 w h)) (hts (.instantiable RX13 4) (ck_8 _ (List.mem_of_getElem? (i := 61) rfl)))
  obtain ⟨c18, i18, h18⟩ := u_known (C := RX14) (T := TX14) (N := 2) (n := 2) hts (fun w h => lwA_in _ (inA_RX14 w h)) (hts (.instantiable RX14 2) (ck_6 _ (List.mem_of_getElem? (i := 106) rfl)))
  obtain ⟨c19, i19, h19⟩ := u_known (C := RX15) (T := TX15) (N := 14) (n := 14) hts (fun w h => lwA_in _ (inA_RX15 w h)) (hts (.instantiable RX15 14) (ck_6 _ (List.mem_of_getElem? (i := 100) rfl)))
  obtain ⟨a0, g0⟩ : ∃ cA : ClassId, ArrOfT s cA .int ∧ va_RA s cA .int := by
    obtain ⟨cA, kA, comp, q1, q2, q3⟩ := Cond.arrayClass_spec (hts (.arrayClass .int) (ck_1 _ (List.mem_of_getElem? (i := 66) rfl)))
    exact ⟨cA, fun n z => ⟨(fun k h => by cases h), kA, q2, comp, q3⟩, q1⟩
  obtain ⟨a1, g1⟩ : ∃ cA : ClassId, ArrOfT s cA .long ∧ va_RA s cA .long := by
    obtain ⟨cA, kA, comp, q1, q2, q3⟩ := Cond.arrayClass_spec (hts (.arrayClass .long) (ck_1 _ (List.mem_of_getElem? (i := 138) rfl)))
    exact ⟨cA, fun n z => ⟨(fun k h => by cases h), kA, q2, comp, q3⟩, q1⟩
  obtain ⟨a2, g2⟩ : ∃ cA : ClassId, ArrOfT s cA .char ∧ va_RA s cA .char := by
    obtain ⟨cA, kA, comp, q1, q2, q3⟩ := Cond.arrayClass_spec (hts (.arrayClass .char) (ck_1 _ (List.mem_of_getElem? (i := 99) rfl)))
    exact ⟨cA, fun n z => ⟨(fun k h => by cases h), kA, q2, comp, q3⟩, q1⟩
  obtain ⟨a3, g3⟩ : ∃ cA : ClassId, ArrOfT s cA .boolean ∧ va_RA s cA .boolean := by
    obtain ⟨cA, kA, comp, q1, q2, q3⟩ := Cond.arrayClass_spec (hts (.arrayClass .boolean) (ck_7 _ (List.mem_of_getElem? (i := 179) rfl)))
    exact ⟨cA, fun n z => ⟨(fun k h => by cases h), kA, q2, comp, q3⟩, q1⟩
  obtain ⟨a4, g4⟩ : ∃ cA : ClassId, ArrOfT s cA .byte ∧ va_RA s cA .byte := by
    obtain ⟨cA, kA, comp, q1, q2, q3⟩ := Cond.arrayClass_spec (hts (.arrayClass .byte) (ck_3 _ (List.mem_of_getElem? (i := 53) rfl)))
    exact ⟨cA, fun n z => ⟨(fun k h => by cases h), kA, q2, comp, q3⟩, q1⟩
  obtain ⟨a5, g5⟩ : ∃ cA : ClassId, ArrOfT s cA .double ∧ va_RA s cA .double := by
    obtain ⟨cA, kA, comp, q1, q2, q3⟩ := Cond.arrayClass_spec (hts (.arrayClass .double) (ck_9 _ (List.mem_of_getElem? (i := 91) rfl)))
    exact ⟨cA, fun n z => ⟨(fun k h => by cases h), kA, q2, comp, q3⟩, q1⟩
  obtain ⟨a6, g6⟩ : ∃ cA : ClassId, ArrOfT s cA (.object "Sendhouse$Frame") ∧ va_RA s cA (.object "Sendhouse$Frame") := by
    obtain ⟨comp, cA, kA, q1, q2, q3, q4, q5⟩ := Cond.arrayOver_spec (hts (.arrayOver (.object "Sendhouse$Frame")) (ck_1 _ (List.mem_of_getElem? (i := 157) rfl)))
    exact ⟨cA, fun n z => ⟨(fun k h => by cases h), kA, q3, comp, q4⟩, kA, comp, q3, q4, q1, q5⟩
  obtain ⟨a7, g7⟩ : ∃ cA : ClassId, ArrOfT s cA (.object "Sendhouse$Thing") ∧ va_RA s cA (.object "Sendhouse$Thing") := by
    obtain ⟨comp, cA, kA, q1, q2, q3, q4, q5⟩ := Cond.arrayOver_spec (hts (.arrayOver (.object "Sendhouse$Thing")) (ck_1 _ (List.mem_of_getElem? (i := 107) rfl)))
    exact ⟨cA, fun n z => ⟨(fun k h => by cases h), kA, q3, comp, q4⟩, kA, comp, q3, q4, q1, q5⟩
  obtain ⟨a8, g8⟩ : ∃ cA : ClassId, ArrOfT s cA (.object "Sendhouse$Told") ∧ va_RA s cA (.object "Sendhouse$Told") := by
    obtain ⟨comp, cA, kA, q1, q2, q3, q4, q5⟩ := Cond.arrayOver_spec (hts (.arrayOver (.object "Sendhouse$Told")) (ck_1 _ (List.mem_of_getElem? (i := 68) rfl)))
    exact ⟨cA, fun n z => ⟨(fun k h => by cases h), kA, q3, comp, q4⟩, kA, comp, q3, q4, q1, q5⟩
  obtain ⟨a9, g9⟩ : ∃ cA : ClassId, ArrOfT s cA (.object "SendhouseModel$Method") ∧ va_RA s cA (.object "SendhouseModel$Method") := by
    obtain ⟨comp, cA, kA, q1, q2, q3, q4, q5⟩ := Cond.arrayOver_spec (hts (.arrayOver (.object "SendhouseModel$Method")) (ck_6 _ (List.mem_of_getElem? (i := 130) rfl)))
    exact ⟨cA, fun n z => ⟨(fun k h => by cases h), kA, q3, comp, q4⟩, kA, comp, q3, q4, q1, q5⟩
  obtain ⟨a10, g10⟩ : ∃ cA : ClassId, ArrOfT s cA (.object "SendhouseModel$Value") ∧ va_RA s cA (.object "SendhouseModel$Value") := by
    obtain ⟨comp, cA, kA, q1, q2, q3, q4, q5⟩ := Cond.arrayOver_spec (hts (.arrayOver (.object "SendhouseModel$Value")) (ck_6 _ (List.mem_of_getElem? (i := 122) rfl)))
    exact ⟨cA, fun n z => ⟨(fun k h => by cases h), kA, q3, comp, q4⟩, kA, comp, q3, q4, q1, q5⟩
  obtain ⟨a11, g11⟩ : ∃ cA : ClassId, ArrOfT s cA (.object "java/lang/Object") ∧ va_RA s cA (.object "java/lang/Object") := by
    obtain ⟨comp, cA, kA, q1, q2, q3, q4, q5⟩ := Cond.arrayOver_spec (hts (.arrayOver (.object "java/lang/Object")) (ck_5 _ (List.mem_of_getElem? (i := 175) rfl)))
    exact ⟨cA, fun n z => ⟨(fun k h => by cases h), kA, q3, comp, q4⟩, kA, comp, q3, q4, q1, q5⟩
  refine ⟨((fun k => match k with | 0 => c0 | 1 => c1 | 2 => c2 | 3 => c3 | 4 => c4 | 5 => c5 | 6 => c6 | 7 => c7 | 8 => c8 | 9 => c9 | 10 => c10 | 11 => c11 | 12 => c12 | 13 => c13 | 14 => c14 | 15 => c15 | 16 => c16 | 17 => c17 | 18 => c18 | _ => c19), (fun k => match k with | 0 => i0 | 1 => i1 | 2 => i2 | 3 => i3 | 4 => i4 | 5 => i5 | 6 => i6 | 7 => i7 | 8 => i8 | 9 => i9 | 10 => i10 | 11 => i11 | 12 => i12 | 13 => i13 | 14 => i14 | 15 => i15 | 16 => i16 | 17 => i17 | 18 => i18 | _ => i19)), (fun k => match k with | 0 => a0 | 1 => a1 | 2 => a2 | 3 => a3 | 4 => a4 | 5 => a5 | 6 => a6 | 7 => a7 | 8 => a8 | 9 => a9 | 10 => a10 | _ => a11), fun k q hk => ?_, fun k q hk => ?_⟩
  · match k, hk with
    | 0, hk => cases hk; exact h0
    | 1, hk => cases hk; exact h1
    | 2, hk => cases hk; exact h2
    | 3, hk => cases hk; exact h3
    | 4, hk => cases hk; exact h4
    | 5, hk => cases hk; exact h5
    | 6, hk => cases hk; exact h6
    | 7, hk => cases hk; exact h7
    | 8, hk => cases hk; exact h8
    | 9, hk => cases hk; exact h9
    | 10, hk => cases hk; exact h10
    | 11, hk => cases hk; exact h11
    | 12, hk => cases hk; exact h12
    | 13, hk => cases hk; exact h13
    | 14, hk => cases hk; exact h14
    | 15, hk => cases hk; exact h15
    | 16, hk => cases hk; exact h16
    | 17, hk => cases hk; exact h17
    | 18, hk => cases hk; exact h18
    | 19, hk => cases hk; exact h19
    | k + 20, hk => simp [vwCl] at hk
  · match k, hk with
    | 0, hk => cases hk; exact g0
    | 1, hk => cases hk; exact g1
    | 2, hk => cases hk; exact g2
    | 3, hk => cases hk; exact g3
    | 4, hk => cases hk; exact g4
    | 5, hk => cases hk; exact g5
    | 6, hk => cases hk; exact g6
    | 7, hk => cases hk; exact g7
    | 8, hk => cases hk; exact g8
    | 9, hk => cases hk; exact g9
    | 10, hk => cases hk; exact g10
    | 11, hk => cases hk; exact g11
    | k + 12, hk => simp [gT] at hk
