theorem iRJ0_l : ∀ w ∈ u_ws RJ0 TJ0 2, w ∈ lw_tbl ∧ goodWord w = true := by decide +kernel
theorem iRJ0 : ∀ w ∈ u_ws RJ0 TJ0 2, w ∈ wAll := fun w h => wIn (iRJ0_l w h).1 (iRJ0_l w h).2
theorem iRJx00060_l : ∀ w ∈ u_ws RJx00060 TJx00060 6, w ∈ lw_tbl ∧ goodWord w = true := by decide +kernel
theorem iRJx00060 : ∀ w ∈ u_ws RJx00060 TJx00060 6, w ∈ wAll := fun w h => wIn (iRJx00060_l w h).1 (iRJx00060_l w h).2
theorem iRX10_l : ∀ w ∈ u_ws RX10 TX10 4, w ∈ lw_tbl ∧ goodWord w = true := by decide +kernel
theorem iRX10 : ∀ w ∈ u_ws RX10 TX10 4, w ∈ wAll := fun w h => wIn (iRX10_l w h).1 (iRX10_l w h).2
theorem iRX11_l : ∀ w ∈ u_ws RX11 TX11 3, w ∈ lw_tbl ∧ goodWord w = true := by decide +kernel
theorem iRX11 : ∀ w ∈ u_ws RX11 TX11 3, w ∈ wAll := fun w h => wIn (iRX11_l w h).1 (iRX11_l w h).2
theorem iRX12_l : ∀ w ∈ u_ws RX12 TX12 8, w ∈ lw_tbl ∧ goodWord w = true := by decide +kernel
theorem iRX12 : ∀ w ∈ u_ws RX12 TX12 8, w ∈ wAll := fun w h => wIn (iRX12_l w h).1 (iRX12_l w h).2
theorem dL_law_28 : decode cL_law 28 = .ok (.iload 5, 2) := by decide +kernel
theorem dL_law_30 : decode cL_law 30 = .ok (.aload_n 0, 1) := by decide +kernel
theorem dL_law_31 : decode cL_law 31 = .ok (.arraylength, 1) := by decide +kernel
theorem dL_law_32 : decode cL_law 32 = .ok (.bipush 9, 2) := by decide +kernel
theorem dL_law_34 : decode cL_law 34 = .ok (.isub, 1) := by decide +kernel
theorem dL_law_35 : decode cL_law 35 = .ok (.if_icmp .gt 2677, 3) := by decide +kernel
theorem dL_law_2706 : decode cL_law 2706 = .ok (.iinc 5 9, 3) := by decide +kernel
theorem dL_law_2709 : decode cL_law 2709 = .ok (.goto (-2681), 3) := by decide +kernel
theorem dL_law_2712 : decode cL_law 2712 = .ok (.iconst 1, 1) := by decide +kernel
theorem dL_law_2713 : decode cL_law 2713 = .ok (.ireturn, 1) := by decide +kernel
theorem z_D {args : Array Value} {s : State} (hts : ∀ w ∈ lw_tbl, w.before args s = true) : ∃ D : va_G, ∀ (c : Nat) (q : vw_C), vwCl[c]? = some q → u_Kn s q.1 q.2.1 q.2.2 (D.1 c) (D.2 c) := by
  have hw : ∀ w ∈ wAll, w.before args s = true := fun w h => hts w (wTbl h)
  obtain ⟨c0, i0, K0⟩ := u_known (C := RJ0) (T := TJ0) (N := 2) (n := 4) hw iRJ0 (hts _ (wT2 (List.mem_of_getElem? (i := 213) rfl)))
  obtain ⟨c1, i1, K1⟩ := u_known (C := RJx00060) (T := TJx00060) (N := 6) (n := 6) hw iRJx00060 (hts _ (wT2 (List.mem_of_getElem? (i := 195) rfl)))
  obtain ⟨c2, i2, K2⟩ := u_known (C := RJx4a65c) (T := TJx4a65c) (N := 3) (n := 3) hw iRJx4a65c (hts _ (wT5 (List.mem_of_getElem? (i := 165) rfl)))
  obtain ⟨c3, i3, K3⟩ := u_known (C := RX0) (T := TX0) (N := 4) (n := 4) hw iRX0 (hts _ (wT1 (List.mem_of_getElem? (i := 46) rfl)))
  obtain ⟨c4, i4, K4⟩ := u_known (C := RX1) (T := TX1) (N := 2) (n := 2) hw iRX1 (hts _ (wT2 (List.mem_of_getElem? (i := 11) rfl)))
  obtain ⟨c5, i5, K5⟩ := u_known (C := RX2) (T := TX2) (N := 5) (n := 5) hw iRX2 (hts _ (wT1 (List.mem_of_getElem? (i := 52) rfl)))
  obtain ⟨c6, i6, K6⟩ := u_known (C := RX3) (T := TX3) (N := 3) (n := 3) hw iRX3 (hts _ (wT2 (List.mem_of_getElem? (i := 55) rfl)))
  obtain ⟨c7, i7, K7⟩ := u_known (C := RX4) (T := TX4) (N := 14) (n := 14) hw iRX4 (hts _ (wT1 (List.mem_of_getElem? (i := 146) rfl)))
  obtain ⟨c8, i8, K8⟩ := u_known (C := RX5) (T := TX5) (N := 6) (n := 6) hw iRX5 (hts _ (wT2 (List.mem_of_getElem? (i := 26) rfl)))
  obtain ⟨c9, i9, K9⟩ := u_known (C := RX6) (T := TX6) (N := 8) (n := 8) hw iRX6 (hts _ (wT1 (List.mem_of_getElem? (i := 81) rfl)))
  obtain ⟨c10, i10, K10⟩ := u_known (C := RX7) (T := TX7) (N := 8) (n := 8) hw iRX7 (hts _ (wT1 (List.mem_of_getElem? (i := 216) rfl)))
  obtain ⟨c11, i11, K11⟩ := u_known (C := RX8) (T := TX8) (N := 2) (n := 2) hw iRX8 (hts _ (wT1 (List.mem_of_getElem? (i := 154) rfl)))
  obtain ⟨c12, i12, K12⟩ := u_known (C := RX9) (T := TX9) (N := 8) (n := 8) hw iRX9 (hts _ (wT1 (List.mem_of_getElem? (i := 38) rfl)))
  obtain ⟨c13, i13, K13⟩ := u_known (C := RX10) (T := TX10) (N := 4) (n := 4) hw iRX10 (hts _ (wT7 (List.mem_of_getElem? (i := 117) rfl)))
  obtain ⟨c14, i14, K14⟩ := u_known (C := RX11) (T := TX11) (N := 3) (n := 3) hw iRX11 (hts _ (wT7 (List.mem_of_getElem? (i := 191) rfl)))
  obtain ⟨c15, i15, K15⟩ := u_known (C := RX12) (T := TX12) (N := 8) (n := 8) hw iRX12 (hts _ (wT6 (List.mem_of_getElem? (i := 70) rfl)))
  obtain ⟨c16, i16, K16⟩ := u_known (C := RX13) (T := TX13) (N := 1) (n := 1) hw iRX13 (hts _ (wT7 (List.mem_of_getElem? (i := 47) rfl)))
  obtain ⟨c17, i17, K17⟩ := u_known (C := RX14) (T := TX14) (N := 27) (n := 27) hw iRX14 (hts _ (wT5 (List.mem_of_getElem? (i := 159) rfl)))
  refine ⟨(fun k => [c0, c1, c2, c3, c4, c5, c6, c7, c8, c9, c10, c11, c12, c13, c14, c15, c16, c17].getD k c0, fun k => [i0, i1, i2, i3, i4, i5, i6, i7, i8, i9, i10, i11, i12, i13, i14, i15, i16, i17].getD k i0), ?_⟩
  intro k q hq
  match k, hq with
  | 0, hq => cases hq; exact K0
  | 1, hq => cases hq; exact K1
  | 2, hq => cases hq; exact K2
  | 3, hq => cases hq; exact K3
  | 4, hq => cases hq; exact K4
  | 5, hq => cases hq; exact K5
  | 6, hq => cases hq; exact K6
  | 7, hq => cases hq; exact K7
  | 8, hq => cases hq; exact K8
  | 9, hq => cases hq; exact K9
  | 10, hq => cases hq; exact K10
  | 11, hq => cases hq; exact K11
  | 12, hq => cases hq; exact K12
  | 13, hq => cases hq; exact K13
  | 14, hq => cases hq; exact K14
  | 15, hq => cases hq; exact K15
  | 16, hq => cases hq; exact K16
  | 17, hq => cases hq; exact K17
  | k + 18, hq => simp [vwCl] at hq
theorem zz_aa {args : Array Value} {s : State} {ty : FieldType} (h : (Cond.arrayOver (.array ty)).before args s = true) : zAA ty s := h
theorem z_tp {args : Array Value} {s : State} {ty : FieldType} (h : (Cond.arrayClass ty).before args s = true) : ∃ cA : ClassId, ArrOfT s cA ty ∧ s.vm.findClass ("[" ++ ty.toString) = some cA := by
  obtain ⟨cA, kA, comp, h1, h2, h3⟩ := Cond.arrayClass_spec h
  exact ⟨cA, fun n z => ⟨fun k h => (by cases h), kA, h2, comp, h3⟩, h1⟩
theorem z_ta2 {s : State} {ty : FieldType} (h : zAA ty s) : ∃ cA : ClassId, ArrOfT s cA (.array ty) ∧ s.vm.findClass ("[" ++ (FieldType.array ty).toString) = some cA := by
  obtain ⟨comp, c, k, h1, h2, h3, h4, h5⟩ := zAA_spec h
  exact ⟨c, fun n z => ⟨fun k h => (by cases h), k, h3, comp, h4⟩, h5⟩
theorem z_to {s : State} {C : String} (h : va_AO C s) : ∃ cA : ClassId, ArrOfT s cA (.object C) ∧ va_RA s cA (.object C) := by
  obtain ⟨comp, c, k, h1, h2, h3, h4, h5⟩ := Cond.arrayOver_spec h
  exact ⟨c, fun n z => ⟨fun k h => (by cases h), k, h3, comp, h4⟩, k, comp, h3, h4, h1, h5⟩
theorem z_tabs {args : Array Value} {s : State} (hts : ∀ w ∈ lw_tbl, w.before args s = true) : ∃ (D : va_G) (cy : Nat → ClassId), va_K D vwCl (tyA cy) s := by
  obtain ⟨D, hD⟩ := z_D hts
  obtain ⟨c0, a0, b0⟩ := z_tp (ty := .int) (hts _ (wT1 (List.mem_of_getElem? (i := 78) rfl)))
  obtain ⟨c1, a1, b1⟩ := z_tp (ty := .long) (hts _ (wT1 (List.mem_of_getElem? (i := 167) rfl)))
  obtain ⟨c2, a2, b2⟩ := z_tp (ty := .boolean) (hts _ (wT1 (List.mem_of_getElem? (i := 166) rfl)))
  obtain ⟨c7, a7, b7⟩ := z_tp (ty := .double) (hts _ (wT8 (List.mem_of_getElem? (i := 55) rfl)))
  obtain ⟨c3, a3, b3⟩ := z_ta2 (ty := .long) (s := s) (zz_aa (hts _ (wT1 (List.mem_of_getElem? (i := 152) rfl))))
  obtain ⟨c4, a4, b4⟩ := z_ta2 (ty := .int) (s := s) (zz_aa (hts _ (wT1 (List.mem_of_getElem? (i := 222) rfl))))
  obtain ⟨c5, a5, b5⟩ := z_to (C := "Cavernbook$Shot") (s := s) (va_AO.of (hts _ (wT1 (List.mem_of_getElem? (i := 80) rfl))))
  obtain ⟨c6, a6, b6⟩ := z_to (C := "Cavernbook$Party") (s := s) (va_AO.of (hts _ (wT2 (List.mem_of_getElem? (i := 54) rfl))))
  refine ⟨D, fun k => [c0, c1, c2, c3, c4, c5, c6, c7].getD k c0, hD, ?_⟩
  intro k q hq
  match k, hq with
  | 0, hq => cases hq; exact ⟨a0, b0⟩
  | 1, hq => cases hq; exact ⟨a1, b1⟩
  | 2, hq => cases hq; exact ⟨a2, b2⟩
  | 3, hq => cases hq; exact ⟨a3, b3⟩
  | 4, hq => cases hq; exact ⟨a4, b4⟩
  | 5, hq => cases hq; exact ⟨a5, b5⟩
  | 6, hq => cases hq; exact ⟨a6, b6⟩
  | 7, hq => cases hq; exact ⟨a7, b7⟩
  | k + 8, hq => simp [tyA] at hq
theorem z_str {args : Array Value} {s : State} {k : Nat} {tx : String} (h1 : (Cond.stringRef "Cavernbook" k tx).before args s = true) (h2 : (Cond.exactly (.string "Cavernbook" k) "java/lang/String").before args s = true) : zSt "Cavernbook" k tx s := by
  obtain ⟨a, c, cA, kA, q1, q2, q3, q4, q5, q6, -⟩ := Cond.exactly_spec (args := args) (first := s) (o := none) (s := s) (idx := []) (t := .string "Cavernbook" k) (cls := "java/lang/String") h2
  exact ⟨a, vk_R.of h1 q1⟩
theorem z_hX {args : Array Value} {s : State} (hts : ∀ w ∈ lw_tbl, w.before args s = true) (hg : (Jvm.Cond.and given_1 narrow_1).before args s = true) : zX s := by
  have hs := flat_of_before _ hg
  refine ⟨⟨⟨va_Nw.of rfl (hts _ (wT2 (List.mem_of_getElem? (i := 229) rfl))), va_Nw.of rfl (hts _ (wT3 (List.mem_of_getElem? (i := 5) rfl))), va_Nw.of rfl (hts _ (wT3 (List.mem_of_getElem? (i := 120) rfl))), va_Nw.of rfl (hts _ (wT5 (List.mem_of_getElem? (i := 120) rfl)))⟩, va_Nc.of (hs _ (by decide +kernel)), va_Nc.of (hs _ (by decide +kernel))⟩, ⟨z_str (hts _ (wT2 (List.mem_of_getElem? (i := 236) rfl))) (hs _ (by decide +kernel)), z_str (hts _ (wT3 (List.mem_of_getElem? (i := 39) rfl))) (hs _ (by decide +kernel)), z_str (hts _ (wT4 (List.mem_of_getElem? (i := 229) rfl))) (hs _ (by decide +kernel)), z_str (hts _ (wT3 (List.mem_of_getElem? (i := 22) rfl))) (hs _ (by decide +kernel)), z_str (hts _ (wT3 (List.mem_of_getElem? (i := 26) rfl))) (hs _ (by decide +kernel)), z_str (hts _ (wT4 (List.mem_of_getElem? (i := 62) rfl))) (hs _ (by decide +kernel)), z_str (hts _ (wT5 (List.mem_of_getElem? (i := 127) rfl))) (hs _ (by decide +kernel)), z_str (hts _ (wT5 (List.mem_of_getElem? (i := 140) rfl))) (hs _ (by decide +kernel))⟩, va_AO.of (hts _ (wT1 (List.mem_of_getElem? (i := 80) rfl))), va_AO.of (hts _ (wT2 (List.mem_of_getElem? (i := 54) rfl))), zz_aa (hts _ (wT1 (List.mem_of_getElem? (i := 152) rfl))), zz_aa (hts _ (wT1 (List.mem_of_getElem? (i := 222) rfl))), ⟨va_Nw.of rfl (hts _ (wT2 (List.mem_of_getElem? (i := 123) rfl))), va_Nw.of rfl (hts _ (wT2 (List.mem_of_getElem? (i := 125) rfl))), va_Nw.of rfl (hts _ (wT2 (List.mem_of_getElem? (i := 127) rfl)))⟩⟩
theorem z_hY {args : Array Value} {s : State} {A : Nat → Prop} (hts : ∀ w ∈ lw_tbl, w.before args s = true) (hg : (Jvm.Cond.and given_1 narrow_1).before args s = true) (hA : ∀ a : Nat, a < s.heap.size → ¬ A a) : zY A s s.heap := by
  have hs := flat_of_before _ hg
  have e1 : (Cond.isRef (.static "java/lang/Throwable" "UNASSIGNED_STACK" "[Ljava/lang/StackTraceElement;")).before args s = true := hs _ (by decide +kernel)
  have e2 : (Cond.isRef (.static "java/lang/Throwable" "SUPPRESSED_SENTINEL" "Ljava/util/List;")).before args s = true := hs _ (by decide +kernel)
  have e3 : (Cond.exactly (.static "java/util/ArrayList" "DEFAULTCAPACITY_EMPTY_ELEMENTDATA" "[Ljava/lang/Object;") "[Ljava/lang/Object;").before args s = true := hs _ (by decide +kernel)
  obtain ⟨a, c, cA, kA, q1, q2, q3, q4, q5, q6, -⟩ := Cond.exactly_spec (args := args) (first := s) (o := none) (s := s) (idx := []) e3
  exact ⟨vx_Zqof (hts _ (wT2 (List.mem_of_getElem? (i := 146) rfl))) (hts _ (wT1 (List.mem_of_getElem? (i := 15) rfl))) e1 hA, vx_Zqof (hts _ (wT2 (List.mem_of_getElem? (i := 148) rfl))) (hts _ (wT1 (List.mem_of_getElem? (i := 15) rfl))) e2 hA, a, va_Zof (hts _ (wT5 (List.mem_of_getElem? (i := 177) rfl))) (hts _ (wT1 (List.mem_of_getElem? (i := 14) rfl))) q1 hA⟩

