set_option maxHeartbeats 4000000 in
theorem EX1_0 {s : State} {b : Nat} (hts : ∀ w ∈ lw_tbl, w.before #[Value.ref b] s = true) (hgv : (Jvm.Cond.and given_1 narrow_1).before #[Value.ref b] s = true) : ∃ κ : Nat → Nat, EX1 κ (fun q => s.heap.size ≤ q) s s.heap := by
  have hA : ∀ a : Nat, a < s.heap.size → ¬ (fun q : Nat => s.heap.size ≤ q) a := fun a h => Nat.not_le.mpr h
  obtain ⟨t0, ht0, hT0⟩ := va_Tof (args := #[Value.ref b]) (s := s) (tm := (Term.static "java/util/ArrayList" "DEFAULTCAPACITY_EMPTY_ELEMENTDATA" "[Ljava/lang/Object;")) (ty := .object "java/lang/Object") (N := 0) (f := fun _ => .null) (A := (fun q : Nat => s.heap.size ≤ q)) (by decide) (nv_at hgv 10 256 (by decide +kernel)) (va_eqt (nv_at hgv 11 1792 (by decide +kernel))) (fun j hj => absurd hj (Nat.not_lt_zero j)) hA
  have hZ0 := va_Zref (hts _ (ck_1 _ (List.mem_of_getElem? (i := 177) rfl))) (hts _ (ck_1 _ (List.mem_of_getElem? (i := 9) rfl))) ht0 hA
  have hO0 : va_O "[Ljava/lang/Object;" t0 (fun q : Nat => s.heap.size ≤ q) s s.heap := va_Oof (nv_at hgv 11 768 (by decide +kernel)) ht0 hA
  obtain ⟨mi, hmi⟩ := va_Mi.of (args := #[Value.ref b]) (s := s) (C := "[Ljava/lang/Object;") (nv_at hgv 10 358 (by decide +kernel))
  have hZ1 : va_Z "java/lang/String" "COMPACT_STRINGS" "Z" (.int 1) (fun q : Nat => s.heap.size ≤ q) s s.heap := va_Zof (hts _ (ck_4 _ (List.mem_of_getElem? (i := 160) rfl))) (hts _ (ck_1 _ (List.mem_of_getElem? (i := 17) rfl))) (va_eqt (nv_at hgv 11 1664 (by decide +kernel))) hA
  obtain ⟨tO, htO, hTO⟩ := va_Tof (args := #[Value.ref b]) (s := s) (tm := (Term.static "java/lang/Integer" "DigitOnes" "[B")) (ty := .byte) (N := 100) (f := fun j => .int (Int32.ofNat (48 + j % 10))) (A := (fun q : Nat => s.heap.size ≤ q)) (by decide) (nv_at hgv 11 1600 (by decide +kernel)) (va_eqt (nv_at hgv 10 320 (by decide +kernel))) (fun j hj => va_eqt (mdO hgv (Int32.ofNat j, Int32.ofNat (48 + j % 10)) (List.mem_of_getElem? (eO_at j hj)))) hA
  have hZO := va_Zref (hts _ (ck_5 _ (List.mem_of_getElem? (i := 61) rfl))) (hts _ (ck_1 _ (List.mem_of_getElem? (i := 29) rfl))) htO hA
  obtain ⟨tD, htD, hTD⟩ := va_Tof (args := #[Value.ref b]) (s := s) (tm := (Term.static "java/lang/CharacterDataLatin1" "DIGITS" "[B")) (ty := .byte) (N := 256) (f := fun j => .int (dgN.getD j 0)) (A := (fun q : Nat => s.heap.size ≤ q)) (by decide) (nv_at hgv 11 452 (by decide +kernel)) (va_eqt (nv_at hgv 11 1476 (by decide +kernel))) (fun j hj => va_eqt (mdD hgv (Int32.ofNat j, dgN.getD j 0) (List.mem_of_getElem? (eD_at j hj)))) hA
  have hZD := va_Zref (hts _ (ck_6 _ (List.mem_of_getElem? (i := 183) rfl))) (hts _ (ck_1 _ (List.mem_of_getElem? (i := 35) rfl))) htD hA
  have hex : (Cond.exactly (Term.static "java/lang/CharacterDataLatin1" "instance" "Ljava/lang/CharacterDataLatin1;") "java/lang/CharacterDataLatin1").before #[Value.ref b] s = true := (nv_at hgv 11 708 (by decide +kernel))
  obtain ⟨tI, c, cA, kA, htI, -⟩ := Cond.exactly_spec (args := #[Value.ref b]) (first := s) (o := none) (s := s) (idx := []) (t := (Term.static "java/lang/CharacterDataLatin1" "instance" "Ljava/lang/CharacterDataLatin1;")) (cls := "java/lang/CharacterDataLatin1") hex
  have hZI := va_Zref (hts _ (ck_6 _ (List.mem_of_getElem? (i := 175) rfl))) (hts _ (ck_1 _ (List.mem_of_getElem? (i := 35) rfl))) htI hA
  have hOI : va_O "java/lang/CharacterDataLatin1" tI (fun q : Nat => s.heap.size ≤ q) s s.heap := va_Oof hex htI hA
  have hch : ∀ i : Nat, ∃ zz : Nat × Nat, ∀ q, lwT[i]? = some q → vk_R q.1 q.2.1 q.2.2.1 zz.1 s ∧ vk_S 1 [q.2.2.2.2.length] [q.2.2.2.2] (fun _ => zz.1) (fun _ => zz.2) (fun q : Nat => s.heap.size ≤ q) s s.heap := fun i => by
    cases hi : lwT[i]? with
    | none => exact ⟨(0, 0), fun q hq => by cases hq⟩
    | some q0 =>
      obtain ⟨zz, hz⟩ := mT_all hts hgv q0 (List.mem_of_getElem? hi)
      exact ⟨zz, fun q hq => by cases hq; exact hz⟩
  obtain ⟨F, hF⟩ := Classical.skolem.mp hch
  obtain ⟨κ, hκ⟩ : ∃ κ : Nat → Nat, κ = fun k => if k = 0 then t0 else if k = 3 then mi else if k = 4 then tO else if k = 5 then tI else if k = 6 then tD else if k % 2 = 0 then (F ((k - 20) / 2)).1 else (F ((k - 20) / 2)).2 := ⟨_, rfl⟩
  have k0 : κ 0 = t0 := by rw [hκ]; rfl
  have k3 : κ 3 = mi := by rw [hκ]; rfl
  have k4 : κ 4 = tO := by rw [hκ]; rfl
  have k5 : κ 5 = tI := by rw [hκ]; rfl
  have k6 : κ 6 = tD := by rw [hκ]; rfl
  refine ⟨κ, ⟨fun w hw => mN_1 (List.all_eq_true.mp lwN_ok w hw) (hts w (mN_all w hw)), mF_all hts, fun q hq => va_Nc.of (mD_all hgv q hq)⟩,
    ⟨vx_Zqof (hts _ (ck_2 _ (List.mem_of_getElem? (i := 76) rfl))) (hts _ (ck_1 _ (List.mem_of_getElem? (i := 12) rfl))) (nv_at hgv 10 128 (by decide +kernel)) hA, vx_Zqof (hts _ (ck_2 _ (List.mem_of_getElem? (i := 78) rfl))) (hts _ (ck_1 _ (List.mem_of_getElem? (i := 12) rfl))) (nv_at hgv 11 640 (by decide +kernel)) hA⟩,
    fun q hq => ?_, ⟨by rw [k0]; exact hZ0, by rw [k0]; exact hT0, by rw [k0]; exact hO0, by rw [k3]; exact hmi⟩, hZ1, fun q hq => ?_, ⟨by rw [k4]; exact hZO, by rw [k4]; exact hTO⟩, ⟨by rw [k5]; exact hZI, by rw [k5]; exact hOI⟩, ⟨by rw [k6]; exact hZD, by rw [k6]; exact hTD⟩, va_Zqof (hts _ (ck_4 _ (List.mem_of_getElem? (i := 231) rfl))) (hts _ (ck_1 _ (List.mem_of_getElem? (i := 26) rfl))) (nv_at hgv 10 384 (by decide +kernel)) hA⟩
  · obtain ⟨a, c, cA, kA, q1, -⟩ := Cond.exactly_spec (args := #[Value.ref b]) (first := s) (o := none) (s := s) (idx := []) (t := .string q.1 q.2.1) (cls := "java/lang/String") (mS_ex hgv q hq)
    exact ⟨a, vk_R.of (hts _ (mS_all q hq)) q1⟩
  · obtain ⟨h1, h2, h3⟩ := mT_ix q hq
    have e1 : κ q.2.2.2.1 = (F ((q.2.2.2.1 - 20) / 2)).1 := by
      rw [hκ]
      show (if q.2.2.2.1 = 0 then t0 else _) = _
      rw [if_neg (by omega), if_neg (by omega), if_neg (by omega), if_neg (by omega), if_neg (by omega), if_pos h1]
    have e2 : κ (q.2.2.2.1 + 1) = (F ((q.2.2.2.1 - 20) / 2)).2 := by
      rw [hκ]
      show (if q.2.2.2.1 + 1 = 0 then t0 else _) = _
      rw [if_neg (by omega), if_neg (by omega), if_neg (by omega), if_neg (by omega), if_neg (by omega), if_neg (by omega), show (q.2.2.2.1 + 1 - 20) / 2 = (q.2.2.2.1 - 20) / 2 by omega]
    rw [e1, e2]
    exact hF _ q h3
theorem K_0 {s : State} {b : Nat} (hts : ∀ w ∈ lw_tbl, w.before #[Value.ref b] s = true) : ∃ (D : va_G) (ar : Nat → ClassId), va_K D vwCl (gT ar) s := by
  obtain ⟨c0, i0, h0⟩ := u_known (C := RJ0) (T := TJ0) (N := 4) (n := 4) hts (fun w h => lwA_in _ (inA_RJ0 w h)) (hts (.instantiable RJ0 4) (ck_2 _ (List.mem_of_getElem? (i := 132) rfl)))
  obtain ⟨c1, i1, h1⟩ := u_known (C := RJ4) (T := TJ4) (N := 4) (n := 4) hts (fun w h => lwA_in _ (inA_RJ4 w h)) (hts (.instantiable RJ4 4) (ck_4 _ (List.mem_of_getElem? (i := 151) rfl)))
  obtain ⟨c2, i2, h2⟩ := u_known (C := RJx00060) (T := TJx00060) (N := 6) (n := 6) hts (fun w h => lwA_in _ (inA_RJx00060 w h)) (hts (.instantiable RJx00060 6) (ck_2 _ (List.mem_of_getElem? (i := 59) rfl)))
  obtain ⟨c3, i3, h3⟩ := u_known (C := RJxe14f1) (T := TJxe14f1) (N := 6) (n := 6) hts (fun w h => lwA_in _ (inA_RJxe14f1 w h)) (hts (.instantiable RJxe14f1 6) (ck_6 _ (List.mem_of_getElem? (i := 126) rfl)))
  obtain ⟨c4, i4, h4⟩ := u_known (C := RJxc9f04) (T := TJxc9f04) (N := 5) (n := 5) hts (fun w h => lwA_in _ (inA_RJxc9f04 w h)) (hts (.instantiable RJxc9f04 5) (ck_6 _ (List.mem_of_getElem? (i := 63) rfl)))
  obtain ⟨c5, i5, h5⟩ := u_known (C := RJx4a65c) (T := TJx4a65c) (N := 3) (n := 3) hts (fun w h => lwA_in _ (inA_RJx4a65c w h)) (hts (.instantiable RJx4a65c 3) (ck_1 _ (List.mem_of_getElem? (i := 165) rfl)))
  obtain ⟨c6, i6, h6⟩ := u_known (C := RX0) (T := TX0) (N := 3) (n := 3) hts (fun w h => lwA_in _ (inA_RX0 w h)) (hts (.instantiable RX0 3) (ck_1 _ (List.mem_of_getElem? (i := 49) rfl)))
  obtain ⟨c7, i7, h7⟩ := u_known (C := RX1) (T := TX1) (N := 7) (n := 7) hts (fun w h => lwA_in _ (inA_RX1 w h)) (hts (.instantiable RX1 7) (ck_1 _ (List.mem_of_getElem? (i := 212) rfl)))
  obtain ⟨c8, i8, h8⟩ := u_known (C := RX2) (T := TX2) (N := 1) (n := 1) hts (fun w h => lwA_in _ (inA_RX2 w h)) (hts (.instantiable RX2 1) (ck_4 _ (List.mem_of_getElem? (i := 29) rfl)))
  obtain ⟨c9, i9, h9⟩ := u_known (C := RX3) (T := TX3) (N := 7) (n := 7) hts (fun w h => lwA_in _ (inA_RX3 w h)) (hts (.instantiable RX3 7) (ck_1 _ (List.mem_of_getElem? (i := 69) rfl)))
  obtain ⟨c10, i10, h10⟩ := u_known (C := RX4) (T := TX4) (N := 5) (n := 5) hts (fun w h => lwA_in _ (inA_RX4 w h)) (hts (.instantiable RX4 5) (ck_1 _ (List.mem_of_getElem? (i := 107) rfl)))
  obtain ⟨c11, i11, h11⟩ := u_known (C := RX5) (T := TX5) (N := 5) (n := 5) hts (fun w h => lwA_in _ (inA_RX5 w h)) (hts (.instantiable RX5 5) (ck_1 _ (List.mem_of_getElem? (i := 100) rfl)))
  obtain ⟨c12, i12, h12⟩ := u_known (C := RX6) (T := TX6) (N := 7) (n := 7) hts (fun w h => lwA_in _ (inA_RX6 w h)) (hts (.instantiable RX6 7) (ck_6 _ (List.mem_of_getElem? (i := 207) rfl)))
  obtain ⟨c13, i13, h13⟩ := u_known (C := RX7) (T := TX7) (N := 4) (n := 4) hts (fun w h => lwA_in _ (inA_RX7 w h)) (hts (.instantiable RX7 4) (ck_1 _ (List.mem_of_getElem? (i := 159) rfl)))
  obtain ⟨c14, i14, h14⟩ := u_known (C := RX8) (T := TX8) (N := 13) (n := 13) hts (fun w h => lwA_in _ (inA_RX8 w h)) (hts (.instantiable RX8 13) (ck_1 _ (List.mem_of_getElem? (i := 41) rfl)))
  obtain ⟨a0, g0⟩ : ∃ cA : ClassId, ArrOfT s cA .int ∧ va_RA s cA .int := by
    obtain ⟨cA, kA, comp, q1, q2, q3⟩ := Cond.arrayClass_spec (hts (.arrayClass .int) (ck_1 _ (List.mem_of_getElem? (i := 65) rfl)))
    exact ⟨cA, fun n z => ⟨(fun k h => by cases h), kA, q2, comp, q3⟩, q1⟩
  obtain ⟨a1, g1⟩ : ∃ cA : ClassId, ArrOfT s cA .long ∧ va_RA s cA .long := by
    obtain ⟨cA, kA, comp, q1, q2, q3⟩ := Cond.arrayClass_spec (hts (.arrayClass .long) (ck_1 _ (List.mem_of_getElem? (i := 137) rfl)))
    exact ⟨cA, fun n z => ⟨(fun k h => by cases h), kA, q2, comp, q3⟩, q1⟩
  obtain ⟨a2, g2⟩ : ∃ cA : ClassId, ArrOfT s cA .char ∧ va_RA s cA .char := by
    obtain ⟨cA, kA, comp, q1, q2, q3⟩ := Cond.arrayClass_spec (hts (.arrayClass .char) (ck_1 _ (List.mem_of_getElem? (i := 98) rfl)))
    exact ⟨cA, fun n z => ⟨(fun k h => by cases h), kA, q2, comp, q3⟩, q1⟩
  obtain ⟨a3, g3⟩ : ∃ cA : ClassId, ArrOfT s cA .boolean ∧ va_RA s cA .boolean := by
    obtain ⟨cA, kA, comp, q1, q2, q3⟩ := Cond.arrayClass_spec (hts (.arrayClass .boolean) (ck_7 _ (List.mem_of_getElem? (i := 239) rfl)))
    exact ⟨cA, fun n z => ⟨(fun k h => by cases h), kA, q2, comp, q3⟩, q1⟩
  obtain ⟨a4, g4⟩ : ∃ cA : ClassId, ArrOfT s cA .byte ∧ va_RA s cA .byte := by
    obtain ⟨cA, kA, comp, q1, q2, q3⟩ := Cond.arrayClass_spec (hts (.arrayClass .byte) (ck_2 _ (List.mem_of_getElem? (i := 133) rfl)))
    exact ⟨cA, fun n z => ⟨(fun k h => by cases h), kA, q2, comp, q3⟩, q1⟩
  obtain ⟨a5, g5⟩ : ∃ cA : ClassId, ArrOfT s cA (.object "Sendhouse$Frame") ∧ va_RA s cA (.object "Sendhouse$Frame") := by
    obtain ⟨comp, cA, kA, q1, q2, q3, q4, q5⟩ := Cond.arrayOver_spec (hts (.arrayOver (.object "Sendhouse$Frame")) (ck_1 _ (List.mem_of_getElem? (i := 156) rfl)))
    exact ⟨cA, fun n z => ⟨(fun k h => by cases h), kA, q3, comp, q4⟩, kA, comp, q3, q4, q1, q5⟩
  obtain ⟨a6, g6⟩ : ∃ cA : ClassId, ArrOfT s cA (.object "Sendhouse$Thing") ∧ va_RA s cA (.object "Sendhouse$Thing") := by
    obtain ⟨comp, cA, kA, q1, q2, q3, q4, q5⟩ := Cond.arrayOver_spec (hts (.arrayOver (.object "Sendhouse$Thing")) (ck_1 _ (List.mem_of_getElem? (i := 106) rfl)))
    exact ⟨cA, fun n z => ⟨(fun k h => by cases h), kA, q3, comp, q4⟩, kA, comp, q3, q4, q1, q5⟩
  obtain ⟨a7, g7⟩ : ∃ cA : ClassId, ArrOfT s cA (.object "Sendhouse$Told") ∧ va_RA s cA (.object "Sendhouse$Told") := by
    obtain ⟨comp, cA, kA, q1, q2, q3, q4, q5⟩ := Cond.arrayOver_spec (hts (.arrayOver (.object "Sendhouse$Told")) (ck_1 _ (List.mem_of_getElem? (i := 67) rfl)))
    exact ⟨cA, fun n z => ⟨(fun k h => by cases h), kA, q3, comp, q4⟩, kA, comp, q3, q4, q1, q5⟩
  obtain ⟨a8, g8⟩ : ∃ cA : ClassId, ArrOfT s cA (.object "java/lang/Object") ∧ va_RA s cA (.object "java/lang/Object") := by
    obtain ⟨comp, cA, kA, q1, q2, q3, q4, q5⟩ := Cond.arrayOver_spec (hts (.arrayOver (.object "java/lang/Object")) (ck_4 _ (List.mem_of_getElem? (i := 97) rfl)))
    exact ⟨cA, fun n z => ⟨(fun k h => by cases h), kA, q3, comp, q4⟩, kA, comp, q3, q4, q1, q5⟩
  obtain ⟨a9, g9⟩ : ∃ cA : ClassId, ArrOfT s cA (.object "java/lang/String") ∧ va_RA s cA (.object "java/lang/String") := by
    obtain ⟨comp, cA, kA, q1, q2, q3, q4, q5⟩ := Cond.arrayOver_spec (hts (.arrayOver (.object "java/lang/String")) (ck_6 _ (List.mem_of_getElem? (i := 33) rfl)))
    exact ⟨cA, fun n z => ⟨(fun k h => by cases h), kA, q3, comp, q4⟩, kA, comp, q3, q4, q1, q5⟩
  refine ⟨((fun k => match k with | 0 => c0 | 1 => c1 | 2 => c2 | 3 => c3 | 4 => c4 | 5 => c5 | 6 => c6 | 7 => c7 | 8 => c8 | 9 => c9 | 10 => c10 | 11 => c11 | 12 => c12 | 13 => c13 | _ => c14), (fun k => match k with | 0 => i0 | 1 => i1 | 2 => i2 | 3 => i3 | 4 => i4 | 5 => i5 | 6 => i6 | 7 => i7 | 8 => i8 | 9 => i9 | 10 => i10 | 11 => i11 | 12 => i12 | 13 => i13 | _ => i14)), (fun k => match k with | 0 => a0 | 1 => a1 | 2 => a2 | 3 => a3 | 4 => a4 | 5 => a5 | 6 => a6 | 7 => a7 | 8 => a8 | _ => a9), fun k q hk => ?_, fun k q hk => ?_⟩
  · match k, hk with
    | 0, hk => cases hk; exact h0
    | 1, hk => cases hk; exact h1
    | 2, hk => cases hk; exact h2
    | 3, hk => cases hk; exact h3
    | 4, hk => cases hk; exact h4
    | 5, hk => cases hk; exact h5
    | 6, hk => cases hk; exact h6
    | 7, hk => cases hk; exact h7
    | 8, hk => cases hk; exact h8
    | 9, hk => cases hk; exact h9
    | 10, hk => cases hk; exact h10
    | 11, hk => cases hk; exact h11
    | 12, hk => cases hk; exact h12
    | 13, hk => cases hk; exact h13
    | 14, hk => cases hk; exact h14
    | k + 15, hk => simp [vwCl] at hk
  · match k, hk with
    | 0, hk => cases hk; exact g0
    | 1, hk => cases hk; exact g1
    | 2, hk => cases hk; exact g2
    | 3, hk => cases hk; exact g3
    | 4, hk => cases hk; exact g4
    | 5, hk => cases hk; exact g5
    | 6, hk => cases hk; exact g6
    | 7, hk => cases hk; exact g7
    | 8, hk => cases hk; exact g8
    | 9, hk => cases hk; exact g9
    | k + 10, hk => simp [gT] at hk
