theorem dL_law_38 : decode cL_law 38 = .ok (.aload_n 0, 1) := by decide +kernel
theorem dL_law_39 : decode cL_law 39 = .ok (.iload 5, 2) := by decide +kernel
theorem dL_law_41 : decode cL_law 41 = .ok (.iaload, 1) := by decide +kernel
theorem dL_law_42 : decode cL_law 42 = .ok (.bipush 63, 2) := by decide +kernel
theorem dL_law_44 : decode cL_law 44 = .ok (.iand, 1) := by decide +kernel
theorem dL_law_45 : decode cL_law 45 = .ok (.tableswitch 2661 0 38 #[171, 215, 361, 436, 523, 591, 666, 745, 824, 880, 947, 1002, 1058, 1114, 1169, 1237, 1329, 1397, 1465, 1521, 1589, 1645, 1713, 1788, 1844, 1912, 1987, 2055, 2123, 2179, 2235, 2291, 2359, 2415, 2428, 2441, 2455, 2533, 2598], 171) := by decide +kernel
set_option maxHeartbeats 4000000 in
set_option maxRecDepth 100000 in
theorem s_0 (l : Launch) {p : Program} {e : Env} {s : State} {m : MethodId} {below : List Frame} {meth : Method} {c : Code} {D : va_G} {cy : Nat → ClassId} {A : Nat → Prop} {b : Nat} {xs : Nat → Int32} {Q : State → Prop} {H : Heap} {locs : List Loc} {ls : Array Slot} (Z : zLaw l p s m c D cy A b 9 xs) (x0 g0 o1 o2 : Nat) (ux : (Nat → Nat) × ((Nat → Nat) × (Nat → Nat)) × ((Nat → Nat) × (Nat → Nat) × (Nat → Nat)) × ((Nat → Nat) × (Nat → Nat) × (Nat → Nat)) × (Nat → Nat)) (um : Nat → Nat) (hP : va_P D vwCl (zW cy x0 g0 o1 o2 ux um) H) (hD : va_D A (zW cy x0 g0 o1 o2 ux um)) (hS : va_S A s.heap H locs) (hl : lv_has ls 9 [(0, .ref b), (1, .ref x0), (2, .ref g0), (3, .ref o1), (4, .ref o2), (5, .int 0)]) (kt : ∀ (H : Heap) (locs : List Loc) (ls : Array Slot), va_S A s.heap H locs → lv_has ls 9 [(0, .ref b), (5, .int 0)] → W p l e room_1 s m #[Value.ref b] below meth c H locs 600006 7302040 Q (F0 m 2706 ls [])) : W p l e room_1 s m #[Value.ref b] below meth c H locs 213 25112 Q (F0 m 216 ls []) := by
  exact c_station l Z x0 g0 o1 o2 (ux.1 0) (ux.1 1) (ux.1 2) (ux.1 3) (ux.1 4) (ux.1 5) (ux.1 6) (ux.2.1.1 0) (ux.2.1.1 1) (um 0) (um 1) (um 2) (um 3) (um 4) (um 5) (um 6) (um 7) (um 8) (um 9) (um 10) (um 11) (um 12) (um 13) (um 14) (um 15) (um 16) (um 17) (um 18) (um 19) (um 20)  (hP.sub [0, 1, 66, 55] rfl) (hD.sub [0, 1, 66, 55] (by decide) rfl) hS (lv_sub hl [0, 1, 2, 3, 4, 5] rfl) kt
set_option maxHeartbeats 4000000 in
set_option maxRecDepth 100000 in
theorem s_1 (l : Launch) {p : Program} {e : Env} {s : State} {m : MethodId} {below : List Frame} {meth : Method} {c : Code} {D : va_G} {cy : Nat → ClassId} {A : Nat → Prop} {b : Nat} {xs : Nat → Int32} {Q : State → Prop} {H : Heap} {locs : List Loc} {ls : Array Slot} (Z : zLaw l p s m c D cy A b 9 xs) (x0 g0 o1 o2 : Nat) (ux : (Nat → Nat) × ((Nat → Nat) × (Nat → Nat)) × ((Nat → Nat) × (Nat → Nat) × (Nat → Nat)) × ((Nat → Nat) × (Nat → Nat) × (Nat → Nat)) × (Nat → Nat)) (um : Nat → Nat) (hP : va_P D vwCl (zW cy x0 g0 o1 o2 ux um) H) (hD : va_D A (zW cy x0 g0 o1 o2 ux um)) (hS : va_S A s.heap H locs) (hl : lv_has ls 9 [(0, .ref b), (1, .ref x0), (2, .ref g0), (3, .ref o1), (4, .ref o2), (5, .int 0)]) (kt : ∀ (H : Heap) (locs : List Loc) (ls : Array Slot), va_S A s.heap H locs → lv_has ls 9 [(0, .ref b), (5, .int 0)] → W p l e room_1 s m #[Value.ref b] below meth c H locs 600006 7302040 Q (F0 m 2706 ls [])) : W p l e room_1 s m #[Value.ref b] below meth c H locs 213 25112 Q (F0 m 260 ls []) := by
  exact c_shot l Z x0 g0 o1 o2 (ux.1 0) (ux.1 1) (ux.1 2) (ux.1 3) (ux.1 4) (ux.1 5) (ux.1 6) (ux.2.1.1 0) (ux.2.1.1 1) (um 0) (um 1) (um 2) (um 3) (um 4) (um 5) (um 6) (um 7) (um 8) (um 9) (um 10) (um 11) (um 12) (um 13) (um 14) (um 15) (um 16) (um 17) (um 18) (um 19) (um 20)  (hP.sub [0, 1, 55] rfl) (hD.sub [0, 1, 55] (by decide) rfl) hS (lv_sub hl [0, 1, 2, 3, 4, 5] rfl) kt
set_option maxHeartbeats 4000000 in
set_option maxRecDepth 100000 in
theorem s_2 (l : Launch) {p : Program} {e : Env} {s : State} {m : MethodId} {below : List Frame} {meth : Method} {c : Code} {D : va_G} {cy : Nat → ClassId} {A : Nat → Prop} {b : Nat} {xs : Nat → Int32} {Q : State → Prop} {H : Heap} {locs : List Loc} {ls : Array Slot} (Z : zLaw l p s m c D cy A b 9 xs) (x0 g0 o1 o2 : Nat) (ux : (Nat → Nat) × ((Nat → Nat) × (Nat → Nat)) × ((Nat → Nat) × (Nat → Nat) × (Nat → Nat)) × ((Nat → Nat) × (Nat → Nat) × (Nat → Nat)) × (Nat → Nat)) (um : Nat → Nat) (hP : va_P D vwCl (zW cy x0 g0 o1 o2 ux um) H) (hD : va_D A (zW cy x0 g0 o1 o2 ux um)) (hS : va_S A s.heap H locs) (hl : lv_has ls 9 [(0, .ref b), (1, .ref x0), (2, .ref g0), (3, .ref o1), (4, .ref o2), (5, .int 0)]) (kt : ∀ (H : Heap) (locs : List Loc) (ls : Array Slot), va_S A s.heap H locs → lv_has ls 9 [(0, .ref b), (5, .int 0)] → W p l e room_1 s m #[Value.ref b] below meth c H locs 600006 7302040 Q (F0 m 2706 ls [])) : W p l e room_1 s m #[Value.ref b] below meth c H locs 213 25112 Q (F0 m 406 ls []) := by
  exact c_setAside l Z x0 g0 o1 o2 (ux.1 0) (ux.1 1) (ux.1 2) (ux.1 3) (ux.1 4) (ux.1 5) (ux.1 6) (ux.2.1.1 0) (ux.2.1.1 1) (um 0) (um 1) (um 2) (um 3) (um 4) (um 5) (um 6) (um 7) (um 8) (um 9) (um 10) (um 11) (um 12) (um 13) (um 14) (um 15) (um 16) (um 17) (um 18) (um 19) (um 20) (um 21)  (hP.sub [0, 1, 55, 56] rfl) (hD.sub [0, 1, 55, 56] (by decide) rfl) hS (lv_sub hl [0, 1, 2, 3, 4, 5] rfl) kt
set_option maxHeartbeats 4000000 in
set_option maxRecDepth 100000 in
theorem s_3 (l : Launch) {p : Program} {e : Env} {s : State} {m : MethodId} {below : List Frame} {meth : Method} {c : Code} {D : va_G} {cy : Nat → ClassId} {A : Nat → Prop} {b : Nat} {xs : Nat → Int32} {Q : State → Prop} {H : Heap} {locs : List Loc} {ls : Array Slot} (Z : zLaw l p s m c D cy A b 9 xs) (x0 g0 o1 o2 : Nat) (ux : (Nat → Nat) × ((Nat → Nat) × (Nat → Nat)) × ((Nat → Nat) × (Nat → Nat) × (Nat → Nat)) × ((Nat → Nat) × (Nat → Nat) × (Nat → Nat)) × (Nat → Nat)) (um : Nat → Nat) (hP : va_P D vwCl (zW cy x0 g0 o1 o2 ux um) H) (hD : va_D A (zW cy x0 g0 o1 o2 ux um)) (hS : va_S A s.heap H locs) (hl : lv_has ls 9 [(0, .ref b), (1, .ref x0), (2, .ref g0), (3, .ref o1), (4, .ref o2), (5, .int 0)]) (kt : ∀ (H : Heap) (locs : List Loc) (ls : Array Slot), va_S A s.heap H locs → lv_has ls 9 [(0, .ref b), (5, .int 0)] → W p l e room_1 s m #[Value.ref b] below meth c H locs 600006 7302040 Q (F0 m 2706 ls [])) : W p l e room_1 s m #[Value.ref b] below meth c H locs 213 25112 Q (F0 m 481 ls []) := by
  exact c_join l Z x0 g0 o1 o2 (ux.1 0) (ux.1 1) (ux.1 2) (ux.1 3) (ux.1 4) (ux.1 5) (ux.1 6) (ux.2.1.1 0) (ux.2.1.1 1) (um 0) (um 1) (um 2) (um 3) (um 4) (um 5) (um 6) (um 7) (um 8) (um 9) (um 10) (um 11) (um 12) (um 13) (um 14) (um 15) (um 16) (um 17) (um 18) (um 19) (um 20)  (hP.sub [0, 1, 55] rfl) (hD.sub [0, 1, 55] (by decide) rfl) hS (lv_sub hl [0, 1, 2, 3, 4, 5] rfl) kt
set_option maxHeartbeats 4000000 in
set_option maxRecDepth 100000 in
theorem s_4 (l : Launch) {p : Program} {e : Env} {s : State} {m : MethodId} {below : List Frame} {meth : Method} {c : Code} {D : va_G} {cy : Nat → ClassId} {A : Nat → Prop} {b : Nat} {xs : Nat → Int32} {Q : State → Prop} {H : Heap} {locs : List Loc} {ls : Array Slot} (Z : zLaw l p s m c D cy A b 9 xs) (x0 g0 o1 o2 : Nat) (ux : (Nat → Nat) × ((Nat → Nat) × (Nat → Nat)) × ((Nat → Nat) × (Nat → Nat) × (Nat → Nat)) × ((Nat → Nat) × (Nat → Nat) × (Nat → Nat)) × (Nat → Nat)) (um : Nat → Nat) (hP : va_P D vwCl (zW cy x0 g0 o1 o2 ux um) H) (hD : va_D A (zW cy x0 g0 o1 o2 ux um)) (hS : va_S A s.heap H locs) (hl : lv_has ls 9 [(0, .ref b), (1, .ref x0), (2, .ref g0), (3, .ref o1), (4, .ref o2), (5, .int 0)]) (kt : ∀ (H : Heap) (locs : List Loc) (ls : Array Slot), va_S A s.heap H locs → lv_has ls 9 [(0, .ref b), (5, .int 0)] → W p l e room_1 s m #[Value.ref b] below meth c H locs 600006 7302040 Q (F0 m 2706 ls [])) : W p l e room_1 s m #[Value.ref b] below meth c H locs 213 25112 Q (F0 m 568 ls []) := by
  exact c_oneWith l Z x0 g0 o1 o2 (ux.1 0) (ux.1 1) (ux.1 2) (ux.1 3) (ux.1 4) (ux.1 5) (ux.1 6) (ux.2.1.1 0) (ux.2.1.1 1) (um 0) (um 1) (um 2) (um 3) (um 4) (um 5) (um 6) (um 7) (um 8) (um 9) (um 10) (um 11) (um 12) (um 13) (um 14) (um 15) (um 16) (um 17) (um 18) (um 19) (um 20)  (hP.sub [0, 1, 55] rfl) (hD.sub [0, 1, 55] (by decide) rfl) hS (lv_sub hl [0, 1, 2, 3, 4, 5] rfl) kt
set_option maxHeartbeats 4000000 in
set_option maxRecDepth 100000 in
theorem s_5 (l : Launch) {p : Program} {e : Env} {s : State} {m : MethodId} {below : List Frame} {meth : Method} {c : Code} {D : va_G} {cy : Nat → ClassId} {A : Nat → Prop} {b : Nat} {xs : Nat → Int32} {Q : State → Prop} {H : Heap} {locs : List Loc} {ls : Array Slot} (Z : zLaw l p s m c D cy A b 9 xs) (x0 g0 o1 o2 : Nat) (ux : (Nat → Nat) × ((Nat → Nat) × (Nat → Nat)) × ((Nat → Nat) × (Nat → Nat) × (Nat → Nat)) × ((Nat → Nat) × (Nat → Nat) × (Nat → Nat)) × (Nat → Nat)) (um : Nat → Nat) (hP : va_P D vwCl (zW cy x0 g0 o1 o2 ux um) H) (hD : va_D A (zW cy x0 g0 o1 o2 ux um)) (hS : va_S A s.heap H locs) (hl : lv_has ls 9 [(0, .ref b), (1, .ref x0), (2, .ref g0), (3, .ref o1), (4, .ref o2), (5, .int 0)]) (kt : ∀ (H : Heap) (locs : List Loc) (ls : Array Slot), va_S A s.heap H locs → lv_has ls 9 [(0, .ref b), (5, .int 0)] → W p l e room_1 s m #[Value.ref b] below meth c H locs 600006 7302040 Q (F0 m 2706 ls [])) : W p l e room_1 s m #[Value.ref b] below meth c H locs 213 25112 Q (F0 m 636 ls []) := by
  exact c_isHung l Z x0 g0 o1 o2 (ux.1 0) (ux.1 1) (ux.1 2) (ux.1 3) (ux.1 4) (ux.1 5) (ux.1 6) (ux.2.1.1 0) (ux.2.1.1 1) (um 0) (um 1) (um 2) (um 3) (um 4) (um 5) (um 6) (um 7) (um 8) (um 9) (um 10) (um 11) (um 12) (um 13) (um 14) (um 15) (um 16) (um 17) (um 18) (um 19) (um 20)  (hP.sub [0, 1, 55] rfl) (hD.sub [0, 1, 55] (by decide) rfl) hS (lv_sub hl [0, 1, 2, 3, 4, 5] rfl) kt
set_option maxHeartbeats 4000000 in
set_option maxRecDepth 100000 in
theorem s_6 (l : Launch) {p : Program} {e : Env} {s : State} {m : MethodId} {below : List Frame} {meth : Method} {c : Code} {D : va_G} {cy : Nat → ClassId} {A : Nat → Prop} {b : Nat} {xs : Nat → Int32} {Q : State → Prop} {H : Heap} {locs : List Loc} {ls : Array Slot} (Z : zLaw l p s m c D cy A b 9 xs) (x0 g0 o1 o2 : Nat) (ux : (Nat → Nat) × ((Nat → Nat) × (Nat → Nat)) × ((Nat → Nat) × (Nat → Nat) × (Nat → Nat)) × ((Nat → Nat) × (Nat → Nat) × (Nat → Nat)) × (Nat → Nat)) (um : Nat → Nat) (hP : va_P D vwCl (zW cy x0 g0 o1 o2 ux um) H) (hD : va_D A (zW cy x0 g0 o1 o2 ux um)) (hS : va_S A s.heap H locs) (hl : lv_has ls 9 [(0, .ref b), (1, .ref x0), (2, .ref g0), (3, .ref o1), (4, .ref o2), (5, .int 0)]) (kt : ∀ (H : Heap) (locs : List Loc) (ls : Array Slot), va_S A s.heap H locs → lv_has ls 9 [(0, .ref b), (5, .int 0)] → W p l e room_1 s m #[Value.ref b] below meth c H locs 600006 7302040 Q (F0 m 2706 ls [])) : W p l e room_1 s m #[Value.ref b] below meth c H locs 213 25112 Q (F0 m 711 ls []) := by
  exact c_top l Z x0 g0 o1 o2 (ux.1 0) (ux.1 1) (ux.1 2) (ux.1 3) (ux.1 4) (ux.1 5) (ux.1 6) (ux.2.1.1 0) (ux.2.1.1 1) (um 0) (um 1) (um 2) (um 3) (um 4) (um 5) (um 6) (um 7) (um 8) (um 9) (um 10) (um 11) (um 12) (um 13) (um 14) (um 15) (um 16) (um 17) (um 18) (um 19) (um 20)  (hP.sub [0, 1, 55] rfl) (hD.sub [0, 1, 55] (by decide) rfl) hS (lv_sub hl [0, 1, 2, 3, 4, 5] rfl) kt
set_option maxHeartbeats 4000000 in
set_option maxRecDepth 100000 in
theorem s_7 (l : Launch) {p : Program} {e : Env} {s : State} {m : MethodId} {below : List Frame} {meth : Method} {c : Code} {D : va_G} {cy : Nat → ClassId} {A : Nat → Prop} {b : Nat} {xs : Nat → Int32} {Q : State → Prop} {H : Heap} {locs : List Loc} {ls : Array Slot} (Z : zLaw l p s m c D cy A b 9 xs) (x0 g0 o1 o2 : Nat) (ux : (Nat → Nat) × ((Nat → Nat) × (Nat → Nat)) × ((Nat → Nat) × (Nat → Nat) × (Nat → Nat)) × ((Nat → Nat) × (Nat → Nat) × (Nat → Nat)) × (Nat → Nat)) (um : Nat → Nat) (hP : va_P D vwCl (zW cy x0 g0 o1 o2 ux um) H) (hD : va_D A (zW cy x0 g0 o1 o2 ux um)) (hS : va_S A s.heap H locs) (hl : lv_has ls 9 [(0, .ref b), (1, .ref x0), (2, .ref g0), (3, .ref o1), (4, .ref o2), (5, .int 0)]) (kt : ∀ (H : Heap) (locs : List Loc) (ls : Array Slot), va_S A s.heap H locs → lv_has ls 9 [(0, .ref b), (5, .int 0)] → W p l e room_1 s m #[Value.ref b] below meth c H locs 600006 7302040 Q (F0 m 2706 ls [])) : W p l e room_1 s m #[Value.ref b] below meth c H locs 213 25112 Q (F0 m 790 ls []) := by
  exact c_bottom l Z x0 g0 o1 o2 (ux.1 0) (ux.1 1) (ux.1 2) (ux.1 3) (ux.1 4) (ux.1 5) (ux.1 6) (ux.2.1.1 0) (ux.2.1.1 1) (um 0) (um 1) (um 2) (um 3) (um 4) (um 5) (um 6) (um 7) (um 8) (um 9) (um 10) (um 11) (um 12) (um 13) (um 14) (um 15) (um 16) (um 17) (um 18) (um 19) (um 20)  (hP.sub [0, 1, 55] rfl) (hD.sub [0, 1, 55] (by decide) rfl) hS (lv_sub hl [0, 1, 2, 3, 4, 5] rfl) kt
set_option maxHeartbeats 4000000 in
set_option maxRecDepth 100000 in
theorem s_8 (l : Launch) {p : Program} {e : Env} {s : State} {m : MethodId} {below : List Frame} {meth : Method} {c : Code} {D : va_G} {cy : Nat → ClassId} {A : Nat → Prop} {b : Nat} {xs : Nat → Int32} {Q : State → Prop} {H : Heap} {locs : List Loc} {ls : Array Slot} (Z : zLaw l p s m c D cy A b 9 xs) (x0 g0 o1 o2 : Nat) (ux : (Nat → Nat) × ((Nat → Nat) × (Nat → Nat)) × ((Nat → Nat) × (Nat → Nat) × (Nat → Nat)) × ((Nat → Nat) × (Nat → Nat) × (Nat → Nat)) × (Nat → Nat)) (um : Nat → Nat) (hP : va_P D vwCl (zW cy x0 g0 o1 o2 ux um) H) (hD : va_D A (zW cy x0 g0 o1 o2 ux um)) (hS : va_S A s.heap H locs) (hl : lv_has ls 9 [(0, .ref b), (1, .ref x0), (2, .ref g0), (3, .ref o1), (4, .ref o2), (5, .int 0)]) (kt : ∀ (H : Heap) (locs : List Loc) (ls : Array Slot), va_S A s.heap H locs → lv_has ls 9 [(0, .ref b), (5, .int 0)] → W p l e room_1 s m #[Value.ref b] below meth c H locs 600006 7302040 Q (F0 m 2706 ls [])) : W p l e room_1 s m #[Value.ref b] below meth c H locs 213 25112 Q (F0 m 869 ls []) := by
  rcases zDay_or (xs 1) with hd | hd
  · exact c_loops_in l Z x0 g0 o1 o2 (ux.1 0) (ux.1 1) (ux.1 2) (ux.1 3) (ux.1 4) (ux.1 5) (ux.1 6) (ux.2.1.1 0) (ux.2.1.1 1) (ux.2.1.2 0) (ux.2.1.2 1) (ux.2.1.2 2) (ux.2.1.2 3) (ux.2.2.1.1 0) (ux.2.2.1.1 1) (ux.2.2.1.1 2) (ux.2.2.1.1 3) (ux.2.2.1.1 4) (ux.2.2.1.1 5) (ux.2.2.1.1 6) (ux.2.2.1.1 7) (um 0) (um 1) (um 2) (um 3) (um 4) (um 5) (um 6) (um 7) (um 8) (um 9) (um 10) (um 11) (um 12) (um 13) (um 14) (um 15) (um 16) (um 17) (um 18) (um 19) (um 20) (um 21) hd (hP.sub [0, 1, 2, 3, 4, 5, 6, 27, 66, 55, 56, 60, 62, 61] rfl) (hD.sub [0, 1, 2, 3, 4, 5, 6, 27, 66, 55, 56, 60, 62, 61] (by decide) rfl) hS (lv_sub hl [0, 1, 2, 3, 4, 5] rfl) kt
  · exact c_loops_no l Z x0 g0 o1 o2 (ux.1 0) (ux.1 1) (ux.1 2) (ux.1 3) (ux.1 4) (ux.1 5) (ux.1 6) (um 0) (um 1) (um 2) (um 3) (um 4) (um 5) (um 6) (um 7) (um 8) (um 9) (um 10) (um 11) (um 12) (um 13) (um 14) (um 15) (um 16) (um 17) (um 18) (um 19) (um 20) hd (hP.sub [0, 55] rfl) (hD.sub [0, 55] (by decide) rfl) hS (lv_sub hl [0, 1, 2, 3, 4, 5] rfl) kt
set_option maxHeartbeats 4000000 in
set_option maxRecDepth 100000 in
theorem s_9 (l : Launch) {p : Program} {e : Env} {s : State} {m : MethodId} {below : List Frame} {meth : Method} {c : Code} {D : va_G} {cy : Nat → ClassId} {A : Nat → Prop} {b : Nat} {xs : Nat → Int32} {Q : State → Prop} {H : Heap} {locs : List Loc} {ls : Array Slot} (Z : zLaw l p s m c D cy A b 9 xs) (x0 g0 o1 o2 : Nat) (ux : (Nat → Nat) × ((Nat → Nat) × (Nat → Nat)) × ((Nat → Nat) × (Nat → Nat) × (Nat → Nat)) × ((Nat → Nat) × (Nat → Nat) × (Nat → Nat)) × (Nat → Nat)) (um : Nat → Nat) (hP : va_P D vwCl (zW cy x0 g0 o1 o2 ux um) H) (hD : va_D A (zW cy x0 g0 o1 o2 ux um)) (hS : va_S A s.heap H locs) (hl : lv_has ls 9 [(0, .ref b), (1, .ref x0), (2, .ref g0), (3, .ref o1), (4, .ref o2), (5, .int 0)]) (kt : ∀ (H : Heap) (locs : List Loc) (ls : Array Slot), va_S A s.heap H locs → lv_has ls 9 [(0, .ref b), (5, .int 0)] → W p l e room_1 s m #[Value.ref b] below meth c H locs 600006 7302040 Q (F0 m 2706 ls [])) : W p l e room_1 s m #[Value.ref b] below meth c H locs 213 25112 Q (F0 m 925 ls []) := by
  exact c_fault l Z x0 g0 o1 o2 (ux.1 0) (ux.1 1) (ux.1 2) (ux.1 3) (ux.1 4) (ux.1 5) (ux.1 6) (ux.2.1.1 0) (ux.2.1.1 1) (um 0) (um 1) (um 2) (um 3) (um 4) (um 5) (um 6) (um 7) (um 8) (um 9) (um 10) (um 11) (um 12) (um 13) (um 14) (um 15) (um 16) (um 17) (um 18) (um 19) (um 20) (um 21)  (hP.sub [0, 1, 55, 56] rfl) (hD.sub [0, 1, 55, 56] (by decide) rfl) hS (lv_sub hl [0, 1, 2, 3, 4, 5] rfl) kt
set_option maxHeartbeats 4000000 in
set_option maxRecDepth 100000 in
theorem s_10 (l : Launch) {p : Program} {e : Env} {s : State} {m : MethodId} {below : List Frame} {meth : Method} {c : Code} {D : va_G} {cy : Nat → ClassId} {A : Nat → Prop} {b : Nat} {xs : Nat → Int32} {Q : State → Prop} {H : Heap} {locs : List Loc} {ls : Array Slot} (Z : zLaw l p s m c D cy A b 9 xs) (x0 g0 o1 o2 : Nat) (ux : (Nat → Nat) × ((Nat → Nat) × (Nat → Nat)) × ((Nat → Nat) × (Nat → Nat) × (Nat → Nat)) × ((Nat → Nat) × (Nat → Nat) × (Nat → Nat)) × (Nat → Nat)) (um : Nat → Nat) (hP : va_P D vwCl (zW cy x0 g0 o1 o2 ux um) H) (hD : va_D A (zW cy x0 g0 o1 o2 ux um)) (hS : va_S A s.heap H locs) (hl : lv_has ls 9 [(0, .ref b), (1, .ref x0), (2, .ref g0), (3, .ref o1), (4, .ref o2), (5, .int 0)]) (kt : ∀ (H : Heap) (locs : List Loc) (ls : Array Slot), va_S A s.heap H locs → lv_has ls 9 [(0, .ref b), (5, .int 0)] → W p l e room_1 s m #[Value.ref b] below meth c H locs 600006 7302040 Q (F0 m 2706 ls [])) : W p l e room_1 s m #[Value.ref b] below meth c H locs 213 25112 Q (F0 m 992 ls []) := by
  rcases zDay_or (xs 1) with hd | hd
  · exact c_allFaults_in l Z x0 g0 o1 o2 (ux.1 0) (ux.1 1) (ux.1 2) (ux.1 3) (ux.1 4) (ux.1 5) (ux.1 6) (ux.2.1.1 0) (ux.2.1.1 1) (ux.2.1.2 0) (ux.2.1.2 1) (ux.2.1.2 2) (ux.2.1.2 3) (ux.2.2.1.1 0) (ux.2.2.1.1 1) (ux.2.2.1.1 2) (ux.2.2.1.1 3) (ux.2.2.1.1 4) (ux.2.2.1.1 5) (ux.2.2.1.1 6) (ux.2.2.1.1 7) ux.2.2.1.2.1 ux.2.2.1.2.2 (um 0) (um 1) (um 2) (um 3) (um 4) (um 5) (um 6) (um 7) (um 8) (um 9) (um 10) (um 11) (um 12) (um 13) (um 14) (um 15) (um 16) (um 17) (um 18) (um 19) (um 20) (um 21) hd (hP.sub (0 :: 1 :: 2 :: 3 :: 4 :: 5 :: 6 :: 27 :: 7 :: 8 :: 9 :: 10 :: 11 :: 12 :: 13 :: 14 :: 15 :: 16 :: 17 :: 18 :: 19 :: 20 :: 21 :: 22 :: 23 :: 24 :: 25 :: 26 :: 66 :: 55 :: 56 :: 60 :: 62 :: 61 :: 63 :: 64 :: 65 :: []) rfl) (hD.sub (0 :: 1 :: 2 :: 3 :: 4 :: 5 :: 6 :: 27 :: 7 :: 8 :: 9 :: 10 :: 11 :: 12 :: 13 :: 14 :: 15 :: 16 :: 17 :: 18 :: 19 :: 20 :: 21 :: 22 :: 23 :: 24 :: 25 :: 26 :: 66 :: 55 :: 56 :: 60 :: 62 :: 61 :: 63 :: 64 :: 65 :: []) (by decide) rfl) hS (lv_sub hl [0, 1, 2, 3, 4, 5] rfl) kt
  · exact c_allFaults_no l Z x0 g0 o1 o2 (ux.1 0) (ux.1 1) (ux.1 2) (ux.1 3) (ux.1 4) (ux.1 5) (ux.1 6) (um 0) (um 1) (um 2) (um 3) (um 4) (um 5) (um 6) (um 7) (um 8) (um 9) (um 10) (um 11) (um 12) (um 13) (um 14) (um 15) (um 16) (um 17) (um 18) (um 19) (um 20) hd (hP.sub [0, 55] rfl) (hD.sub [0, 55] (by decide) rfl) hS (lv_sub hl [0, 1, 2, 3, 4, 5] rfl) kt
set_option maxHeartbeats 4000000 in
set_option maxRecDepth 100000 in
theorem s_11 (l : Launch) {p : Program} {e : Env} {s : State} {m : MethodId} {below : List Frame} {meth : Method} {c : Code} {D : va_G} {cy : Nat → ClassId} {A : Nat → Prop} {b : Nat} {xs : Nat → Int32} {Q : State → Prop} {H : Heap} {locs : List Loc} {ls : Array Slot} (Z : zLaw l p s m c D cy A b 9 xs) (x0 g0 o1 o2 : Nat) (ux : (Nat → Nat) × ((Nat → Nat) × (Nat → Nat)) × ((Nat → Nat) × (Nat → Nat) × (Nat → Nat)) × ((Nat → Nat) × (Nat → Nat) × (Nat → Nat)) × (Nat → Nat)) (um : Nat → Nat) (hP : va_P D vwCl (zW cy x0 g0 o1 o2 ux um) H) (hD : va_D A (zW cy x0 g0 o1 o2 ux um)) (hS : va_S A s.heap H locs) (hl : lv_has ls 9 [(0, .ref b), (1, .ref x0), (2, .ref g0), (3, .ref o1), (4, .ref o2), (5, .int 0)]) (kt : ∀ (H : Heap) (locs : List Loc) (ls : Array Slot), va_S A s.heap H locs → lv_has ls 9 [(0, .ref b), (5, .int 0)] → W p l e room_1 s m #[Value.ref b] below meth c H locs 600006 7302040 Q (F0 m 2706 ls [])) : W p l e room_1 s m #[Value.ref b] below meth c H locs 213 25112 Q (F0 m 1047 ls []) := by
  rcases zDay_or (xs 1) with hd | hd
  · exact c_blunder_in l Z x0 g0 o1 o2 (ux.1 0) (ux.1 1) (ux.1 2) (ux.1 3) (ux.1 4) (ux.1 5) (ux.1 6) (ux.2.1.1 0) (ux.2.1.1 1) (ux.2.1.2 0) (ux.2.1.2 1) (ux.2.1.2 2) (ux.2.1.2 3) (ux.2.2.1.1 0) (ux.2.2.1.1 1) (ux.2.2.1.1 2) (ux.2.2.1.1 3) (ux.2.2.1.1 4) (ux.2.2.1.1 5) (ux.2.2.1.1 6) (ux.2.2.1.1 7) ux.2.2.1.2.1 ux.2.2.1.2.2 (um 0) (um 1) (um 2) (um 3) (um 4) (um 5) (um 6) (um 7) (um 8) (um 9) (um 10) (um 11) (um 12) (um 13) (um 14) (um 15) (um 16) (um 17) (um 18) (um 19) (um 20) (um 21) hd (hP.sub (0 :: 1 :: 2 :: 3 :: 4 :: 5 :: 6 :: 27 :: 7 :: 8 :: 9 :: 10 :: 11 :: 12 :: 13 :: 14 :: 15 :: 16 :: 17 :: 18 :: 19 :: 20 :: 21 :: 22 :: 23 :: 24 :: 25 :: 26 :: 55 :: 56 :: 60 :: 62 :: 61 :: 63 :: 64 :: 65 :: []) rfl) (hD.sub (0 :: 1 :: 2 :: 3 :: 4 :: 5 :: 6 :: 27 :: 7 :: 8 :: 9 :: 10 :: 11 :: 12 :: 13 :: 14 :: 15 :: 16 :: 17 :: 18 :: 19 :: 20 :: 21 :: 22 :: 23 :: 24 :: 25 :: 26 :: 55 :: 56 :: 60 :: 62 :: 61 :: 63 :: 64 :: 65 :: []) (by decide) rfl) hS (lv_sub hl [0, 1, 2, 3, 4, 5] rfl) kt
  · exact c_blunder_no l Z x0 g0 o1 o2 (ux.1 0) (ux.1 1) (ux.1 2) (ux.1 3) (ux.1 4) (ux.1 5) (ux.1 6) (um 0) (um 1) (um 2) (um 3) (um 4) (um 5) (um 6) (um 7) (um 8) (um 9) (um 10) (um 11) (um 12) (um 13) (um 14) (um 15) (um 16) (um 17) (um 18) (um 19) (um 20) hd (hP.sub [0, 55] rfl) (hD.sub [0, 55] (by decide) rfl) hS (lv_sub hl [0, 1, 2, 3, 4, 5] rfl) kt
set_option maxHeartbeats 4000000 in
set_option maxRecDepth 100000 in
theorem s_12 (l : Launch) {p : Program} {e : Env} {s : State} {m : MethodId} {below : List Frame} {meth : Method} {c : Code} {D : va_G} {cy : Nat → ClassId} {A : Nat → Prop} {b : Nat} {xs : Nat → Int32} {Q : State → Prop} {H : Heap} {locs : List Loc} {ls : Array Slot} (Z : zLaw l p s m c D cy A b 9 xs) (x0 g0 o1 o2 : Nat) (ux : (Nat → Nat) × ((Nat → Nat) × (Nat → Nat)) × ((Nat → Nat) × (Nat → Nat) × (Nat → Nat)) × ((Nat → Nat) × (Nat → Nat) × (Nat → Nat)) × (Nat → Nat)) (um : Nat → Nat) (hP : va_P D vwCl (zW cy x0 g0 o1 o2 ux um) H) (hD : va_D A (zW cy x0 g0 o1 o2 ux um)) (hS : va_S A s.heap H locs) (hl : lv_has ls 9 [(0, .ref b), (1, .ref x0), (2, .ref g0), (3, .ref o1), (4, .ref o2), (5, .int 0)]) (kt : ∀ (H : Heap) (locs : List Loc) (ls : Array Slot), va_S A s.heap H locs → lv_has ls 9 [(0, .ref b), (5, .int 0)] → W p l e room_1 s m #[Value.ref b] below meth c H locs 600006 7302040 Q (F0 m 2706 ls [])) : W p l e room_1 s m #[Value.ref b] below meth c H locs 213 25112 Q (F0 m 1103 ls []) := by
  rcases zDay_or (xs 1) with hd | hd
  · exact c_length_in l Z x0 g0 o1 o2 (ux.1 0) (ux.1 1) (ux.1 2) (ux.1 3) (ux.1 4) (ux.1 5) (ux.1 6) (ux.2.1.1 0) (ux.2.1.1 1) (ux.2.1.2 0) (ux.2.1.2 1) (ux.2.1.2 2) (ux.2.1.2 3) (ux.2.2.1.1 0) (ux.2.2.1.1 1) (ux.2.2.1.1 2) (ux.2.2.1.1 3) (ux.2.2.1.1 4) (ux.2.2.1.1 5) (ux.2.2.1.1 6) (ux.2.2.1.1 7) (um 0) (um 1) (um 2) (um 3) (um 4) (um 5) (um 6) (um 7) (um 8) (um 9) (um 10) (um 11) (um 12) (um 13) (um 14) (um 15) (um 16) (um 17) (um 18) (um 19) (um 20) (um 21) hd (hP.sub [0, 1, 2, 3, 4, 5, 6, 27, 66, 55, 56, 60, 62, 61] rfl) (hD.sub [0, 1, 2, 3, 4, 5, 6, 27, 66, 55, 56, 60, 62, 61] (by decide) rfl) hS (lv_sub hl [0, 1, 2, 3, 4, 5] rfl) kt
  · exact c_length_no l Z x0 g0 o1 o2 (ux.1 0) (ux.1 1) (ux.1 2) (ux.1 3) (ux.1 4) (ux.1 5) (ux.1 6) (um 0) (um 1) (um 2) (um 3) (um 4) (um 5) (um 6) (um 7) (um 8) (um 9) (um 10) (um 11) (um 12) (um 13) (um 14) (um 15) (um 16) (um 17) (um 18) (um 19) (um 20) hd (hP.sub [0, 55] rfl) (hD.sub [0, 55] (by decide) rfl) hS (lv_sub hl [0, 1, 2, 3, 4, 5] rfl) kt
set_option maxHeartbeats 4000000 in
set_option maxRecDepth 100000 in
theorem s_13 (l : Launch) {p : Program} {e : Env} {s : State} {m : MethodId} {below : List Frame} {meth : Method} {c : Code} {D : va_G} {cy : Nat → ClassId} {A : Nat → Prop} {b : Nat} {xs : Nat → Int32} {Q : State → Prop} {H : Heap} {locs : List Loc} {ls : Array Slot} (Z : zLaw l p s m c D cy A b 9 xs) (x0 g0 o1 o2 : Nat) (ux : (Nat → Nat) × ((Nat → Nat) × (Nat → Nat)) × ((Nat → Nat) × (Nat → Nat) × (Nat → Nat)) × ((Nat → Nat) × (Nat → Nat) × (Nat → Nat)) × (Nat → Nat)) (um : Nat → Nat) (hP : va_P D vwCl (zW cy x0 g0 o1 o2 ux um) H) (hD : va_D A (zW cy x0 g0 o1 o2 ux um)) (hS : va_S A s.heap H locs) (hl : lv_has ls 9 [(0, .ref b), (1, .ref x0), (2, .ref g0), (3, .ref o1), (4, .ref o2), (5, .int 0)]) (kt : ∀ (H : Heap) (locs : List Loc) (ls : Array Slot), va_S A s.heap H locs → lv_has ls 9 [(0, .ref b), (5, .int 0)] → W p l e room_1 s m #[Value.ref b] below meth c H locs 600006 7302040 Q (F0 m 2706 ls [])) : W p l e room_1 s m #[Value.ref b] below meth c H locs 213 25112 Q (F0 m 1159 ls []) := by
  rcases zDay_or (xs 1) with hd | hd
  · exact c_depth_in l Z x0 g0 o1 o2 (ux.1 0) (ux.1 1) (ux.1 2) (ux.1 3) (ux.1 4) (ux.1 5) (ux.1 6) (ux.2.1.1 0) (ux.2.1.1 1) (ux.2.1.2 0) (ux.2.1.2 1) (ux.2.1.2 2) (ux.2.1.2 3) (ux.2.2.1.1 0) (ux.2.2.1.1 1) (ux.2.2.1.1 2) (ux.2.2.1.1 3) (ux.2.2.1.1 4) (ux.2.2.1.1 5) (ux.2.2.1.1 6) (ux.2.2.1.1 7) ux.2.2.1.2.1 ux.2.2.1.2.2 (um 0) (um 1) (um 2) (um 3) (um 4) (um 5) (um 6) (um 7) (um 8) (um 9) (um 10) (um 11) (um 12) (um 13) (um 14) (um 15) (um 16) (um 17) (um 18) (um 19) (um 20) (um 21) hd (hP.sub (0 :: 1 :: 2 :: 3 :: 4 :: 5 :: 6 :: 27 :: 7 :: 8 :: 9 :: 10 :: 11 :: 12 :: 13 :: 14 :: 15 :: 16 :: 17 :: 18 :: 19 :: 20 :: 21 :: 22 :: 23 :: 24 :: 25 :: 26 :: 66 :: 55 :: 56 :: 60 :: 62 :: 61 :: 63 :: 64 :: 65 :: []) rfl) (hD.sub (0 :: 1 :: 2 :: 3 :: 4 :: 5 :: 6 :: 27 :: 7 :: 8 :: 9 :: 10 :: 11 :: 12 :: 13 :: 14 :: 15 :: 16 :: 17 :: 18 :: 19 :: 20 :: 21 :: 22 :: 23 :: 24 :: 25 :: 26 :: 66 :: 55 :: 56 :: 60 :: 62 :: 61 :: 63 :: 64 :: 65 :: []) (by decide) rfl) hS (lv_sub hl [0, 1, 2, 3, 4, 5] rfl) kt
  · exact c_depth_no l Z x0 g0 o1 o2 (ux.1 0) (ux.1 1) (ux.1 2) (ux.1 3) (ux.1 4) (ux.1 5) (ux.1 6) (um 0) (um 1) (um 2) (um 3) (um 4) (um 5) (um 6) (um 7) (um 8) (um 9) (um 10) (um 11) (um 12) (um 13) (um 14) (um 15) (um 16) (um 17) (um 18) (um 19) (um 20) hd (hP.sub [0, 55] rfl) (hD.sub [0, 55] (by decide) rfl) hS (lv_sub hl [0, 1, 2, 3, 4, 5] rfl) kt
set_option maxHeartbeats 4000000 in
set_option maxRecDepth 100000 in
theorem s_14 (l : Launch) {p : Program} {e : Env} {s : State} {m : MethodId} {below : List Frame} {meth : Method} {c : Code} {D : va_G} {cy : Nat → ClassId} {A : Nat → Prop} {b : Nat} {xs : Nat → Int32} {Q : State → Prop} {H : Heap} {locs : List Loc} {ls : Array Slot} (Z : zLaw l p s m c D cy A b 9 xs) (x0 g0 o1 o2 : Nat) (ux : (Nat → Nat) × ((Nat → Nat) × (Nat → Nat)) × ((Nat → Nat) × (Nat → Nat) × (Nat → Nat)) × ((Nat → Nat) × (Nat → Nat) × (Nat → Nat)) × (Nat → Nat)) (um : Nat → Nat) (hP : va_P D vwCl (zW cy x0 g0 o1 o2 ux um) H) (hD : va_D A (zW cy x0 g0 o1 o2 ux um)) (hS : va_S A s.heap H locs) (hl : lv_has ls 9 [(0, .ref b), (1, .ref x0), (2, .ref g0), (3, .ref o1), (4, .ref o2), (5, .int 0)]) (kt : ∀ (H : Heap) (locs : List Loc) (ls : Array Slot), va_S A s.heap H locs → lv_has ls 9 [(0, .ref b), (5, .int 0)] → W p l e room_1 s m #[Value.ref b] below meth c H locs 600006 7302040 Q (F0 m 2706 ls [])) : W p l e room_1 s m #[Value.ref b] below meth c H locs 213 25112 Q (F0 m 1214 ls []) := by
  exact c_setHeight l Z x0 g0 o1 o2 (ux.1 0) (ux.1 1) (ux.1 2) (ux.1 3) (ux.1 4) (ux.1 5) (ux.1 6) (ux.2.1.1 0) (ux.2.1.1 1) (um 0) (um 1) (um 2) (um 3) (um 4) (um 5) (um 6) (um 7) (um 8) (um 9) (um 10) (um 11) (um 12) (um 13) (um 14) (um 15) (um 16) (um 17) (um 18) (um 19) (um 20)  (hP.sub [0, 1, 55] rfl) (hD.sub [0, 1, 55] (by decide) rfl) hS (lv_sub hl [0, 1, 2, 3, 4, 5] rfl) kt
set_option maxHeartbeats 4000000 in
set_option maxRecDepth 100000 in
theorem s_15 (l : Launch) {p : Program} {e : Env} {s : State} {m : MethodId} {below : List Frame} {meth : Method} {c : Code} {D : va_G} {cy : Nat → ClassId} {A : Nat → Prop} {b : Nat} {xs : Nat → Int32} {Q : State → Prop} {H : Heap} {locs : List Loc} {ls : Array Slot} (Z : zLaw l p s m c D cy A b 9 xs) (x0 g0 o1 o2 : Nat) (ux : (Nat → Nat) × ((Nat → Nat) × (Nat → Nat)) × ((Nat → Nat) × (Nat → Nat) × (Nat → Nat)) × ((Nat → Nat) × (Nat → Nat) × (Nat → Nat)) × (Nat → Nat)) (um : Nat → Nat) (hP : va_P D vwCl (zW cy x0 g0 o1 o2 ux um) H) (hD : va_D A (zW cy x0 g0 o1 o2 ux um)) (hS : va_S A s.heap H locs) (hl : lv_has ls 9 [(0, .ref b), (1, .ref x0), (2, .ref g0), (3, .ref o1), (4, .ref o2), (5, .int 0)]) (kt : ∀ (H : Heap) (locs : List Loc) (ls : Array Slot), va_S A s.heap H locs → lv_has ls 9 [(0, .ref b), (5, .int 0)] → W p l e room_1 s m #[Value.ref b] below meth c H locs 600006 7302040 Q (F0 m 2706 ls [])) : W p l e room_1 s m #[Value.ref b] below meth c H locs 213 25112 Q (F0 m 1282 ls []) := by
  exact c_conduit l Z x0 g0 o1 o2 (ux.1 0) (ux.1 1) (ux.1 2) (ux.1 3) (ux.1 4) (ux.1 5) (ux.1 6) (ux.2.1.1 0) (ux.2.1.1 1) (um 0) (um 1) (um 2) (um 3) (um 4) (um 5) (um 6) (um 7) (um 8) (um 9) (um 10) (um 11) (um 12) (um 13) (um 14) (um 15) (um 16) (um 17) (um 18) (um 19) (um 20)  (hP.sub [0, 1, 55] rfl) (hD.sub [0, 1, 55] (by decide) rfl) hS (lv_sub hl [0, 1, 2, 3, 4, 5] rfl) kt
set_option maxHeartbeats 4000000 in
set_option maxRecDepth 100000 in
theorem s_16 (l : Launch) {p : Program} {e : Env} {s : State} {m : MethodId} {below : List Frame} {meth : Method} {c : Code} {D : va_G} {cy : Nat → ClassId} {A : Nat → Prop} {b : Nat} {xs : Nat → Int32} {Q : State → Prop} {H : Heap} {locs : List Loc} {ls : Array Slot} (Z : zLaw l p s m c D cy A b 9 xs) (x0 g0 o1 o2 : Nat) (ux : (Nat → Nat) × ((Nat → Nat) × (Nat → Nat)) × ((Nat → Nat) × (Nat → Nat) × (Nat → Nat)) × ((Nat → Nat) × (Nat → Nat) × (Nat → Nat)) × (Nat → Nat)) (um : Nat → Nat) (hP : va_P D vwCl (zW cy x0 g0 o1 o2 ux um) H) (hD : va_D A (zW cy x0 g0 o1 o2 ux um)) (hS : va_S A s.heap H locs) (hl : lv_has ls 9 [(0, .ref b), (1, .ref x0), (2, .ref g0), (3, .ref o1), (4, .ref o2), (5, .int 0)]) (kt : ∀ (H : Heap) (locs : List Loc) (ls : Array Slot), va_S A s.heap H locs → lv_has ls 9 [(0, .ref b), (5, .int 0)] → W p l e room_1 s m #[Value.ref b] below meth c H locs 600006 7302040 Q (F0 m 2706 ls [])) : W p l e room_1 s m #[Value.ref b] below meth c H locs 213 25112 Q (F0 m 1374 ls []) := by
  exact c_trace l Z x0 g0 o1 o2 (ux.1 0) (ux.1 1) (ux.1 2) (ux.1 3) (ux.1 4) (ux.1 5) (ux.1 6) (ux.2.1.1 0) (ux.2.1.1 1) (um 0) (um 1) (um 2) (um 3) (um 4) (um 5) (um 6) (um 7) (um 8) (um 9) (um 10) (um 11) (um 12) (um 13) (um 14) (um 15) (um 16) (um 17) (um 18) (um 19) (um 20)  (hP.sub [0, 1, 55] rfl) (hD.sub [0, 1, 55] (by decide) rfl) hS (lv_sub hl [0, 1, 2, 3, 4, 5] rfl) kt
set_option maxHeartbeats 4000000 in
set_option maxRecDepth 100000 in
theorem s_17 (l : Launch) {p : Program} {e : Env} {s : State} {m : MethodId} {below : List Frame} {meth : Method} {c : Code} {D : va_G} {cy : Nat → ClassId} {A : Nat → Prop} {b : Nat} {xs : Nat → Int32} {Q : State → Prop} {H : Heap} {locs : List Loc} {ls : Array Slot} (Z : zLaw l p s m c D cy A b 9 xs) (x0 g0 o1 o2 : Nat) (ux : (Nat → Nat) × ((Nat → Nat) × (Nat → Nat)) × ((Nat → Nat) × (Nat → Nat) × (Nat → Nat)) × ((Nat → Nat) × (Nat → Nat) × (Nat → Nat)) × (Nat → Nat)) (um : Nat → Nat) (hP : va_P D vwCl (zW cy x0 g0 o1 o2 ux um) H) (hD : va_D A (zW cy x0 g0 o1 o2 ux um)) (hS : va_S A s.heap H locs) (hl : lv_has ls 9 [(0, .ref b), (1, .ref x0), (2, .ref g0), (3, .ref o1), (4, .ref o2), (5, .int 0)]) (kt : ∀ (H : Heap) (locs : List Loc) (ls : Array Slot), va_S A s.heap H locs → lv_has ls 9 [(0, .ref b), (5, .int 0)] → W p l e room_1 s m #[Value.ref b] below meth c H locs 600006 7302040 Q (F0 m 2706 ls [])) : W p l e room_1 s m #[Value.ref b] below meth c H locs 213 25112 Q (F0 m 1442 ls []) := by
  exact c_traced l Z x0 g0 o1 o2 (ux.1 0) (ux.1 1) (ux.1 2) (ux.1 3) (ux.1 4) (ux.1 5) (ux.1 6) (ux.2.1.1 0) (ux.2.1.1 1) (um 0) (um 1) (um 2) (um 3) (um 4) (um 5) (um 6) (um 7) (um 8) (um 9) (um 10) (um 11) (um 12) (um 13) (um 14) (um 15) (um 16) (um 17) (um 18) (um 19) (um 20)  (hP.sub [0, 1, 55] rfl) (hD.sub [0, 1, 55] (by decide) rfl) hS (lv_sub hl [0, 1, 2, 3, 4, 5] rfl) kt
set_option maxHeartbeats 4000000 in
set_option maxRecDepth 100000 in
theorem s_18 (l : Launch) {p : Program} {e : Env} {s : State} {m : MethodId} {below : List Frame} {meth : Method} {c : Code} {D : va_G} {cy : Nat → ClassId} {A : Nat → Prop} {b : Nat} {xs : Nat → Int32} {Q : State → Prop} {H : Heap} {locs : List Loc} {ls : Array Slot} (Z : zLaw l p s m c D cy A b 9 xs) (x0 g0 o1 o2 : Nat) (ux : (Nat → Nat) × ((Nat → Nat) × (Nat → Nat)) × ((Nat → Nat) × (Nat → Nat) × (Nat → Nat)) × ((Nat → Nat) × (Nat → Nat) × (Nat → Nat)) × (Nat → Nat)) (um : Nat → Nat) (hP : va_P D vwCl (zW cy x0 g0 o1 o2 ux um) H) (hD : va_D A (zW cy x0 g0 o1 o2 ux um)) (hS : va_S A s.heap H locs) (hl : lv_has ls 9 [(0, .ref b), (1, .ref x0), (2, .ref g0), (3, .ref o1), (4, .ref o2), (5, .int 0)]) (kt : ∀ (H : Heap) (locs : List Loc) (ls : Array Slot), va_S A s.heap H locs → lv_has ls 9 [(0, .ref b), (5, .int 0)] → W p l e room_1 s m #[Value.ref b] below meth c H locs 600006 7302040 Q (F0 m 2706 ls [])) : W p l e room_1 s m #[Value.ref b] below meth c H locs 213 25112 Q (F0 m 1510 ls []) := by
  exact c_peak l Z x0 g0 o1 o2 (ux.1 0) (ux.1 1) (ux.1 2) (ux.1 3) (ux.1 4) (ux.1 5) (ux.1 6) (ux.2.1.1 0) (ux.2.1.1 1) (um 0) (um 1) (um 2) (um 3) (um 4) (um 5) (um 6) (um 7) (um 8) (um 9) (um 10) (um 11) (um 12) (um 13) (um 14) (um 15) (um 16) (um 17) (um 18) (um 19) (um 20)  (hP.sub [0, 1, 55] rfl) (hD.sub [0, 1, 55] (by decide) rfl) hS (lv_sub hl [0, 1, 2, 3, 4, 5] rfl) kt
set_option maxHeartbeats 4000000 in
set_option maxRecDepth 100000 in
theorem s_19 (l : Launch) {p : Program} {e : Env} {s : State} {m : MethodId} {below : List Frame} {meth : Method} {c : Code} {D : va_G} {cy : Nat → ClassId} {A : Nat → Prop} {b : Nat} {xs : Nat → Int32} {Q : State → Prop} {H : Heap} {locs : List Loc} {ls : Array Slot} (Z : zLaw l p s m c D cy A b 9 xs) (x0 g0 o1 o2 : Nat) (ux : (Nat → Nat) × ((Nat → Nat) × (Nat → Nat)) × ((Nat → Nat) × (Nat → Nat) × (Nat → Nat)) × ((Nat → Nat) × (Nat → Nat) × (Nat → Nat)) × (Nat → Nat)) (um : Nat → Nat) (hP : va_P D vwCl (zW cy x0 g0 o1 o2 ux um) H) (hD : va_D A (zW cy x0 g0 o1 o2 ux um)) (hS : va_S A s.heap H locs) (hl : lv_has ls 9 [(0, .ref b), (1, .ref x0), (2, .ref g0), (3, .ref o1), (4, .ref o2), (5, .int 0)]) (kt : ∀ (H : Heap) (locs : List Loc) (ls : Array Slot), va_S A s.heap H locs → lv_has ls 9 [(0, .ref b), (5, .int 0)] → W p l e room_1 s m #[Value.ref b] below meth c H locs 600006 7302040 Q (F0 m 2706 ls [])) : W p l e room_1 s m #[Value.ref b] below meth c H locs 213 25112 Q (F0 m 1566 ls []) := by
  rcases z_rng (xs 1) 199 with hq0 | ⟨h1, h2⟩
  · exact c_rain_no1 l Z x0 g0 o1 o2 (ux.1 0) (ux.1 1) (ux.1 2) (ux.1 3) (ux.1 4) (ux.1 5) (ux.1 6) (um 0) (um 1) (um 2) (um 3) (um 4) (um 5) (um 6) (um 7) (um 8) (um 9) (um 10) (um 11) (um 12) (um 13) (um 14) (um 15) (um 16) (um 17) (um 18) (um 19) (um 20) hq0 (hP.sub [0, 55] rfl) (hD.sub [0, 55] (by decide) rfl) hS (lv_sub hl [0, 1, 2, 3, 4, 5] rfl) kt
  · rcases z_rng (xs 2) 99 with hq0 | ⟨h3, h4⟩
    · exact c_rain_no2 l Z x0 g0 o1 o2 (ux.1 0) (ux.1 1) (ux.1 2) (ux.1 3) (ux.1 4) (ux.1 5) (ux.1 6) (um 0) (um 1) (um 2) (um 3) (um 4) (um 5) (um 6) (um 7) (um 8) (um 9) (um 10) (um 11) (um 12) (um 13) (um 14) (um 15) (um 16) (um 17) (um 18) (um 19) (um 20) h1 h2 hq0 (hP.sub [0, 55] rfl) (hD.sub [0, 55] (by decide) rfl) hS (lv_sub hl [0, 1, 2, 3, 4, 5] rfl) kt
    · obtain ⟨k, hk, e1⟩ := z_nat (n := 199) (by decide +kernel) h1 h2
      exact c_rain_ok l Z x0 g0 o1 o2 (ux.1 0) (ux.1 1) (ux.1 2) (ux.1 3) (ux.1 4) (ux.1 5) (ux.1 6) (ux.2.2.2.2 0) (ux.2.2.2.2 1) (um 0) (um 1) (um 2) (um 3) (um 4) (um 5) (um 6) (um 7) (um 8) (um 9) (um 10) (um 11) (um 12) (um 13) (um 14) (um 15) (um 16) (um 17) (um 18) (um 19) (um 20) k hk h3 h4 e1 (hP.sub [0, 52, 53, 54, 66, 55, 58] rfl) (hD.sub [0, 52, 53, 54, 66, 55, 58] (by decide) rfl) hS (lv_sub hl [0, 1, 2, 3, 4, 5] rfl) kt
set_option maxHeartbeats 4000000 in
set_option maxRecDepth 100000 in
theorem s_20 (l : Launch) {p : Program} {e : Env} {s : State} {m : MethodId} {below : List Frame} {meth : Method} {c : Code} {D : va_G} {cy : Nat → ClassId} {A : Nat → Prop} {b : Nat} {xs : Nat → Int32} {Q : State → Prop} {H : Heap} {locs : List Loc} {ls : Array Slot} (Z : zLaw l p s m c D cy A b 9 xs) (x0 g0 o1 o2 : Nat) (ux : (Nat → Nat) × ((Nat → Nat) × (Nat → Nat)) × ((Nat → Nat) × (Nat → Nat) × (Nat → Nat)) × ((Nat → Nat) × (Nat → Nat) × (Nat → Nat)) × (Nat → Nat)) (um : Nat → Nat) (hP : va_P D vwCl (zW cy x0 g0 o1 o2 ux um) H) (hD : va_D A (zW cy x0 g0 o1 o2 ux um)) (hS : va_S A s.heap H locs) (hl : lv_has ls 9 [(0, .ref b), (1, .ref x0), (2, .ref g0), (3, .ref o1), (4, .ref o2), (5, .int 0)]) (kt : ∀ (H : Heap) (locs : List Loc) (ls : Array Slot), va_S A s.heap H locs → lv_has ls 9 [(0, .ref b), (5, .int 0)] → W p l e room_1 s m #[Value.ref b] below meth c H locs 600006 7302040 Q (F0 m 2706 ls [])) : W p l e room_1 s m #[Value.ref b] below meth c H locs 213 25112 Q (F0 m 1634 ls []) := by
  rcases z_rng (xs 1) 400 with hq0 | ⟨h1, h2⟩
  · exact c_water_no l Z x0 g0 o1 o2 (ux.1 0) (ux.1 1) (ux.1 2) (ux.1 3) (ux.1 4) (ux.1 5) (ux.1 6) (um 0) (um 1) (um 2) (um 3) (um 4) (um 5) (um 6) (um 7) (um 8) (um 9) (um 10) (um 11) (um 12) (um 13) (um 14) (um 15) (um 16) (um 17) (um 18) (um 19) (um 20) hq0 (hP.sub [0, 55] rfl) (hD.sub [0, 55] (by decide) rfl) hS (lv_sub hl [0, 1, 2, 3, 4, 5] rfl) kt
  · obtain ⟨k, hk, e1⟩ := z_nat (n := 400) (by decide +kernel) h1 h2
    exact c_water_ok l Z x0 g0 o1 o2 (ux.1 0) (ux.1 1) (ux.1 2) (ux.1 3) (ux.1 4) (ux.1 5) (ux.1 6) (ux.2.2.2.2 0) (ux.2.2.2.2 1) (um 0) (um 1) (um 2) (um 3) (um 4) (um 5) (um 6) (um 7) (um 8) (um 9) (um 10) (um 11) (um 12) (um 13) (um 14) (um 15) (um 16) (um 17) (um 18) (um 19) (um 20) k hk e1 (hP.sub [0, 52, 53, 54, 66, 55, 59, 58] rfl) (hD.sub [0, 52, 53, 54, 66, 55, 59, 58] (by decide) rfl) hS (lv_sub hl [0, 1, 2, 3, 4, 5] rfl) kt
set_option maxHeartbeats 4000000 in
set_option maxRecDepth 100000 in
theorem s_21 (l : Launch) {p : Program} {e : Env} {s : State} {m : MethodId} {below : List Frame} {meth : Method} {c : Code} {D : va_G} {cy : Nat → ClassId} {A : Nat → Prop} {b : Nat} {xs : Nat → Int32} {Q : State → Prop} {H : Heap} {locs : List Loc} {ls : Array Slot} (Z : zLaw l p s m c D cy A b 9 xs) (x0 g0 o1 o2 : Nat) (ux : (Nat → Nat) × ((Nat → Nat) × (Nat → Nat)) × ((Nat → Nat) × (Nat → Nat) × (Nat → Nat)) × ((Nat → Nat) × (Nat → Nat) × (Nat → Nat)) × (Nat → Nat)) (um : Nat → Nat) (hP : va_P D vwCl (zW cy x0 g0 o1 o2 ux um) H) (hD : va_D A (zW cy x0 g0 o1 o2 ux um)) (hS : va_S A s.heap H locs) (hl : lv_has ls 9 [(0, .ref b), (1, .ref x0), (2, .ref g0), (3, .ref o1), (4, .ref o2), (5, .int 0)]) (kt : ∀ (H : Heap) (locs : List Loc) (ls : Array Slot), va_S A s.heap H locs → lv_has ls 9 [(0, .ref b), (5, .int 0)] → W p l e room_1 s m #[Value.ref b] below meth c H locs 600006 7302040 Q (F0 m 2706 ls [])) : W p l e room_1 s m #[Value.ref b] below meth c H locs 213 25112 Q (F0 m 1690 ls []) := by
  exact c_sump l Z x0 g0 o1 o2 (ux.1 0) (ux.1 1) (ux.1 2) (ux.1 3) (ux.1 4) (ux.1 5) (ux.1 6) (ux.2.1.1 0) (ux.2.1.1 1) (um 0) (um 1) (um 2) (um 3) (um 4) (um 5) (um 6) (um 7) (um 8) (um 9) (um 10) (um 11) (um 12) (um 13) (um 14) (um 15) (um 16) (um 17) (um 18) (um 19) (um 20) (um 21)  (hP.sub [0, 1, 55, 56] rfl) (hD.sub [0, 1, 55, 56] (by decide) rfl) hS (lv_sub hl [0, 1, 2, 3, 4, 5] rfl) kt
set_option maxHeartbeats 4000000 in
set_option maxRecDepth 100000 in
theorem s_22 (l : Launch) {p : Program} {e : Env} {s : State} {m : MethodId} {below : List Frame} {meth : Method} {c : Code} {D : va_G} {cy : Nat → ClassId} {A : Nat → Prop} {b : Nat} {xs : Nat → Int32} {Q : State → Prop} {H : Heap} {locs : List Loc} {ls : Array Slot} (Z : zLaw l p s m c D cy A b 9 xs) (x0 g0 o1 o2 : Nat) (ux : (Nat → Nat) × ((Nat → Nat) × (Nat → Nat)) × ((Nat → Nat) × (Nat → Nat) × (Nat → Nat)) × ((Nat → Nat) × (Nat → Nat) × (Nat → Nat)) × (Nat → Nat)) (um : Nat → Nat) (hP : va_P D vwCl (zW cy x0 g0 o1 o2 ux um) H) (hD : va_D A (zW cy x0 g0 o1 o2 ux um)) (hS : va_S A s.heap H locs) (hl : lv_has ls 9 [(0, .ref b), (1, .ref x0), (2, .ref g0), (3, .ref o1), (4, .ref o2), (5, .int 0)]) (kt : ∀ (H : Heap) (locs : List Loc) (ls : Array Slot), va_S A s.heap H locs → lv_has ls 9 [(0, .ref b), (5, .int 0)] → W p l e room_1 s m #[Value.ref b] below meth c H locs 600006 7302040 Q (F0 m 2706 ls [])) : W p l e room_1 s m #[Value.ref b] below meth c H locs 213 25112 Q (F0 m 1758 ls []) := by
  exact c_isClosed l Z x0 g0 o1 o2 (ux.1 0) (ux.1 1) (ux.1 2) (ux.1 3) (ux.1 4) (ux.1 5) (ux.1 6) (ux.2.1.1 0) (ux.2.1.1 1) (um 0) (um 1) (um 2) (um 3) (um 4) (um 5) (um 6) (um 7) (um 8) (um 9) (um 10) (um 11) (um 12) (um 13) (um 14) (um 15) (um 16) (um 17) (um 18) (um 19) (um 20) (um 21)  (hP.sub [0, 1, 55, 56] rfl) (hD.sub [0, 1, 55, 56] (by decide) rfl) hS (lv_sub hl [0, 1, 2, 3, 4, 5] rfl) kt
set_option maxHeartbeats 4000000 in
set_option maxRecDepth 100000 in
theorem s_23 (l : Launch) {p : Program} {e : Env} {s : State} {m : MethodId} {below : List Frame} {meth : Method} {c : Code} {D : va_G} {cy : Nat → ClassId} {A : Nat → Prop} {b : Nat} {xs : Nat → Int32} {Q : State → Prop} {H : Heap} {locs : List Loc} {ls : Array Slot} (Z : zLaw l p s m c D cy A b 9 xs) (x0 g0 o1 o2 : Nat) (ux : (Nat → Nat) × ((Nat → Nat) × (Nat → Nat)) × ((Nat → Nat) × (Nat → Nat) × (Nat → Nat)) × ((Nat → Nat) × (Nat → Nat) × (Nat → Nat)) × (Nat → Nat)) (um : Nat → Nat) (hP : va_P D vwCl (zW cy x0 g0 o1 o2 ux um) H) (hD : va_D A (zW cy x0 g0 o1 o2 ux um)) (hS : va_S A s.heap H locs) (hl : lv_has ls 9 [(0, .ref b), (1, .ref x0), (2, .ref g0), (3, .ref o1), (4, .ref o2), (5, .int 0)]) (kt : ∀ (H : Heap) (locs : List Loc) (ls : Array Slot), va_S A s.heap H locs → lv_has ls 9 [(0, .ref b), (5, .int 0)] → W p l e room_1 s m #[Value.ref b] below meth c H locs 600006 7302040 Q (F0 m 2706 ls [])) : W p l e room_1 s m #[Value.ref b] below meth c H locs 213 25112 Q (F0 m 1833 ls []) := by
  exact c_party l Z x0 g0 o1 o2 (ux.1 0) (ux.1 1) (ux.1 2) (ux.1 3) (ux.1 4) (ux.1 5) (ux.1 6) (ux.2.1.1 0) (ux.2.1.1 1) (um 0) (um 1) (um 2) (um 3) (um 4) (um 5) (um 6) (um 7) (um 8) (um 9) (um 10) (um 11) (um 12) (um 13) (um 14) (um 15) (um 16) (um 17) (um 18) (um 19) (um 20)  (hP.sub [0, 1, 55] rfl) (hD.sub [0, 1, 55] (by decide) rfl) hS (lv_sub hl [0, 1, 2, 3, 4, 5] rfl) kt
set_option maxHeartbeats 4000000 in
set_option maxRecDepth 100000 in
theorem s_24 (l : Launch) {p : Program} {e : Env} {s : State} {m : MethodId} {below : List Frame} {meth : Method} {c : Code} {D : va_G} {cy : Nat → ClassId} {A : Nat → Prop} {b : Nat} {xs : Nat → Int32} {Q : State → Prop} {H : Heap} {locs : List Loc} {ls : Array Slot} (Z : zLaw l p s m c D cy A b 9 xs) (x0 g0 o1 o2 : Nat) (ux : (Nat → Nat) × ((Nat → Nat) × (Nat → Nat)) × ((Nat → Nat) × (Nat → Nat) × (Nat → Nat)) × ((Nat → Nat) × (Nat → Nat) × (Nat → Nat)) × (Nat → Nat)) (um : Nat → Nat) (hP : va_P D vwCl (zW cy x0 g0 o1 o2 ux um) H) (hD : va_D A (zW cy x0 g0 o1 o2 ux um)) (hS : va_S A s.heap H locs) (hl : lv_has ls 9 [(0, .ref b), (1, .ref x0), (2, .ref g0), (3, .ref o1), (4, .ref o2), (5, .int 0)]) (kt : ∀ (H : Heap) (locs : List Loc) (ls : Array Slot), va_S A s.heap H locs → lv_has ls 9 [(0, .ref b), (5, .int 0)] → W p l e room_1 s m #[Value.ref b] below meth c H locs 600006 7302040 Q (F0 m 2706 ls [])) : W p l e room_1 s m #[Value.ref b] below meth c H locs 213 25112 Q (F0 m 1889 ls []) := by
  exact c_tell l Z x0 g0 o1 o2 (ux.1 0) (ux.1 1) (ux.1 2) (ux.1 3) (ux.1 4) (ux.1 5) (ux.1 6) (um 0) (um 1) (um 2) (um 3) (um 4) (um 5) (um 6) (um 7) (um 8) (um 9) (um 10) (um 11) (um 12) (um 13) (um 14) (um 15) (um 16) (um 17) (um 18) (um 19) (um 20) (um 22)  (hP.sub [0, 55, 57] rfl) (hD.sub [0, 55, 57] (by decide) rfl) hS (lv_sub hl [0, 1, 2, 3, 4, 5] rfl) kt
set_option maxHeartbeats 4000000 in
set_option maxRecDepth 100000 in
theorem s_25 (l : Launch) {p : Program} {e : Env} {s : State} {m : MethodId} {below : List Frame} {meth : Method} {c : Code} {D : va_G} {cy : Nat → ClassId} {A : Nat → Prop} {b : Nat} {xs : Nat → Int32} {Q : State → Prop} {H : Heap} {locs : List Loc} {ls : Array Slot} (Z : zLaw l p s m c D cy A b 9 xs) (x0 g0 o1 o2 : Nat) (ux : (Nat → Nat) × ((Nat → Nat) × (Nat → Nat)) × ((Nat → Nat) × (Nat → Nat) × (Nat → Nat)) × ((Nat → Nat) × (Nat → Nat) × (Nat → Nat)) × (Nat → Nat)) (um : Nat → Nat) (hP : va_P D vwCl (zW cy x0 g0 o1 o2 ux um) H) (hD : va_D A (zW cy x0 g0 o1 o2 ux um)) (hS : va_S A s.heap H locs) (hl : lv_has ls 9 [(0, .ref b), (1, .ref x0), (2, .ref g0), (3, .ref o1), (4, .ref o2), (5, .int 0)]) (kt : ∀ (H : Heap) (locs : List Loc) (ls : Array Slot), va_S A s.heap H locs → lv_has ls 9 [(0, .ref b), (5, .int 0)] → W p l e room_1 s m #[Value.ref b] below meth c H locs 600006 7302040 Q (F0 m 2706 ls [])) : W p l e room_1 s m #[Value.ref b] below meth c H locs 213 25112 Q (F0 m 1957 ls []) := by
  exact c_knows l Z x0 g0 o1 o2 (ux.1 0) (ux.1 1) (ux.1 2) (ux.1 3) (ux.1 4) (ux.1 5) (ux.1 6) (um 0) (um 1) (um 2) (um 3) (um 4) (um 5) (um 6) (um 7) (um 8) (um 9) (um 10) (um 11) (um 12) (um 13) (um 14) (um 15) (um 16) (um 17) (um 18) (um 19) (um 20) (um 22)  (hP.sub [0, 55, 57] rfl) (hD.sub [0, 55, 57] (by decide) rfl) hS (lv_sub hl [0, 1, 2, 3, 4, 5] rfl) kt
set_option maxHeartbeats 4000000 in
set_option maxRecDepth 100000 in
theorem s_26 (l : Launch) {p : Program} {e : Env} {s : State} {m : MethodId} {below : List Frame} {meth : Method} {c : Code} {D : va_G} {cy : Nat → ClassId} {A : Nat → Prop} {b : Nat} {xs : Nat → Int32} {Q : State → Prop} {H : Heap} {locs : List Loc} {ls : Array Slot} (Z : zLaw l p s m c D cy A b 9 xs) (x0 g0 o1 o2 : Nat) (ux : (Nat → Nat) × ((Nat → Nat) × (Nat → Nat)) × ((Nat → Nat) × (Nat → Nat) × (Nat → Nat)) × ((Nat → Nat) × (Nat → Nat) × (Nat → Nat)) × (Nat → Nat)) (um : Nat → Nat) (hP : va_P D vwCl (zW cy x0 g0 o1 o2 ux um) H) (hD : va_D A (zW cy x0 g0 o1 o2 ux um)) (hS : va_S A s.heap H locs) (hl : lv_has ls 9 [(0, .ref b), (1, .ref x0), (2, .ref g0), (3, .ref o1), (4, .ref o2), (5, .int 0)]) (kt : ∀ (H : Heap) (locs : List Loc) (ls : Array Slot), va_S A s.heap H locs → lv_has ls 9 [(0, .ref b), (5, .int 0)] → W p l e room_1 s m #[Value.ref b] below meth c H locs 600006 7302040 Q (F0 m 2706 ls [])) : W p l e room_1 s m #[Value.ref b] below meth c H locs 213 25112 Q (F0 m 2032 ls []) := by
  exact c_go l Z x0 g0 o1 o2 (ux.1 0) (ux.1 1) (ux.1 2) (ux.1 3) (ux.1 4) (ux.1 5) (ux.1 6) (um 0) (um 1) (um 2) (um 3) (um 4) (um 5) (um 6) (um 7) (um 8) (um 9) (um 10) (um 11) (um 12) (um 13) (um 14) (um 15) (um 16) (um 17) (um 18) (um 19) (um 20) (um 22)  (hP.sub [0, 55, 57] rfl) (hD.sub [0, 55, 57] (by decide) rfl) hS (lv_sub hl [0, 1, 2, 3, 4, 5] rfl) kt
set_option maxHeartbeats 4000000 in
set_option maxRecDepth 100000 in
theorem s_27 (l : Launch) {p : Program} {e : Env} {s : State} {m : MethodId} {below : List Frame} {meth : Method} {c : Code} {D : va_G} {cy : Nat → ClassId} {A : Nat → Prop} {b : Nat} {xs : Nat → Int32} {Q : State → Prop} {H : Heap} {locs : List Loc} {ls : Array Slot} (Z : zLaw l p s m c D cy A b 9 xs) (x0 g0 o1 o2 : Nat) (ux : (Nat → Nat) × ((Nat → Nat) × (Nat → Nat)) × ((Nat → Nat) × (Nat → Nat) × (Nat → Nat)) × ((Nat → Nat) × (Nat → Nat) × (Nat → Nat)) × (Nat → Nat)) (um : Nat → Nat) (hP : va_P D vwCl (zW cy x0 g0 o1 o2 ux um) H) (hD : va_D A (zW cy x0 g0 o1 o2 ux um)) (hS : va_S A s.heap H locs) (hl : lv_has ls 9 [(0, .ref b), (1, .ref x0), (2, .ref g0), (3, .ref o1), (4, .ref o2), (5, .int 0)]) (kt : ∀ (H : Heap) (locs : List Loc) (ls : Array Slot), va_S A s.heap H locs → lv_has ls 9 [(0, .ref b), (5, .int 0)] → W p l e room_1 s m #[Value.ref b] below meth c H locs 600006 7302040 Q (F0 m 2706 ls [])) : W p l e room_1 s m #[Value.ref b] below meth c H locs 213 25112 Q (F0 m 2100 ls []) := by
  exact c_pause l Z x0 g0 o1 o2 (ux.1 0) (ux.1 1) (ux.1 2) (ux.1 3) (ux.1 4) (ux.1 5) (ux.1 6) (um 0) (um 1) (um 2) (um 3) (um 4) (um 5) (um 6) (um 7) (um 8) (um 9) (um 10) (um 11) (um 12) (um 13) (um 14) (um 15) (um 16) (um 17) (um 18) (um 19) (um 20) (um 22)  (hP.sub [0, 55, 57] rfl) (hD.sub [0, 55, 57] (by decide) rfl) hS (lv_sub hl [0, 1, 2, 3, 4, 5] rfl) kt
set_option maxHeartbeats 4000000 in
set_option maxRecDepth 100000 in
theorem s_28 (l : Launch) {p : Program} {e : Env} {s : State} {m : MethodId} {below : List Frame} {meth : Method} {c : Code} {D : va_G} {cy : Nat → ClassId} {A : Nat → Prop} {b : Nat} {xs : Nat → Int32} {Q : State → Prop} {H : Heap} {locs : List Loc} {ls : Array Slot} (Z : zLaw l p s m c D cy A b 9 xs) (x0 g0 o1 o2 : Nat) (ux : (Nat → Nat) × ((Nat → Nat) × (Nat → Nat)) × ((Nat → Nat) × (Nat → Nat) × (Nat → Nat)) × ((Nat → Nat) × (Nat → Nat) × (Nat → Nat)) × (Nat → Nat)) (um : Nat → Nat) (hP : va_P D vwCl (zW cy x0 g0 o1 o2 ux um) H) (hD : va_D A (zW cy x0 g0 o1 o2 ux um)) (hS : va_S A s.heap H locs) (hl : lv_has ls 9 [(0, .ref b), (1, .ref x0), (2, .ref g0), (3, .ref o1), (4, .ref o2), (5, .int 0)]) (kt : ∀ (H : Heap) (locs : List Loc) (ls : Array Slot), va_S A s.heap H locs → lv_has ls 9 [(0, .ref b), (5, .int 0)] → W p l e room_1 s m #[Value.ref b] below meth c H locs 600006 7302040 Q (F0 m 2706 ls [])) : W p l e room_1 s m #[Value.ref b] below meth c H locs 213 25112 Q (F0 m 2168 ls []) := by
  exact c_placeOf l Z x0 g0 o1 o2 (ux.1 0) (ux.1 1) (ux.1 2) (ux.1 3) (ux.1 4) (ux.1 5) (ux.1 6) (um 0) (um 1) (um 2) (um 3) (um 4) (um 5) (um 6) (um 7) (um 8) (um 9) (um 10) (um 11) (um 12) (um 13) (um 14) (um 15) (um 16) (um 17) (um 18) (um 19) (um 20) (um 22)  (hP.sub [0, 55, 57] rfl) (hD.sub [0, 55, 57] (by decide) rfl) hS (lv_sub hl [0, 1, 2, 3, 4, 5] rfl) kt
set_option maxHeartbeats 4000000 in
set_option maxRecDepth 100000 in
theorem s_29 (l : Launch) {p : Program} {e : Env} {s : State} {m : MethodId} {below : List Frame} {meth : Method} {c : Code} {D : va_G} {cy : Nat → ClassId} {A : Nat → Prop} {b : Nat} {xs : Nat → Int32} {Q : State → Prop} {H : Heap} {locs : List Loc} {ls : Array Slot} (Z : zLaw l p s m c D cy A b 9 xs) (x0 g0 o1 o2 : Nat) (ux : (Nat → Nat) × ((Nat → Nat) × (Nat → Nat)) × ((Nat → Nat) × (Nat → Nat) × (Nat → Nat)) × ((Nat → Nat) × (Nat → Nat) × (Nat → Nat)) × (Nat → Nat)) (um : Nat → Nat) (hP : va_P D vwCl (zW cy x0 g0 o1 o2 ux um) H) (hD : va_D A (zW cy x0 g0 o1 o2 ux um)) (hS : va_S A s.heap H locs) (hl : lv_has ls 9 [(0, .ref b), (1, .ref x0), (2, .ref g0), (3, .ref o1), (4, .ref o2), (5, .int 0)]) (kt : ∀ (H : Heap) (locs : List Loc) (ls : Array Slot), va_S A s.heap H locs → lv_has ls 9 [(0, .ref b), (5, .int 0)] → W p l e room_1 s m #[Value.ref b] below meth c H locs 600006 7302040 Q (F0 m 2706 ls [])) : W p l e room_1 s m #[Value.ref b] below meth c H locs 213 25112 Q (F0 m 2224 ls []) := by
  exact c_hourOf l Z x0 g0 o1 o2 (ux.1 0) (ux.1 1) (ux.1 2) (ux.1 3) (ux.1 4) (ux.1 5) (ux.1 6) (um 0) (um 1) (um 2) (um 3) (um 4) (um 5) (um 6) (um 7) (um 8) (um 9) (um 10) (um 11) (um 12) (um 13) (um 14) (um 15) (um 16) (um 17) (um 18) (um 19) (um 20) (um 22)  (hP.sub [0, 55, 57] rfl) (hD.sub [0, 55, 57] (by decide) rfl) hS (lv_sub hl [0, 1, 2, 3, 4, 5] rfl) kt
set_option maxHeartbeats 4000000 in
set_option maxRecDepth 100000 in
theorem s_30 (l : Launch) {p : Program} {e : Env} {s : State} {m : MethodId} {below : List Frame} {meth : Method} {c : Code} {D : va_G} {cy : Nat → ClassId} {A : Nat → Prop} {b : Nat} {xs : Nat → Int32} {Q : State → Prop} {H : Heap} {locs : List Loc} {ls : Array Slot} (Z : zLaw l p s m c D cy A b 9 xs) (x0 g0 o1 o2 : Nat) (ux : (Nat → Nat) × ((Nat → Nat) × (Nat → Nat)) × ((Nat → Nat) × (Nat → Nat) × (Nat → Nat)) × ((Nat → Nat) × (Nat → Nat) × (Nat → Nat)) × (Nat → Nat)) (um : Nat → Nat) (hP : va_P D vwCl (zW cy x0 g0 o1 o2 ux um) H) (hD : va_D A (zW cy x0 g0 o1 o2 ux um)) (hS : va_S A s.heap H locs) (hl : lv_has ls 9 [(0, .ref b), (1, .ref x0), (2, .ref g0), (3, .ref o1), (4, .ref o2), (5, .int 0)]) (kt : ∀ (H : Heap) (locs : List Loc) (ls : Array Slot), va_S A s.heap H locs → lv_has ls 9 [(0, .ref b), (5, .int 0)] → W p l e room_1 s m #[Value.ref b] below meth c H locs 600006 7302040 Q (F0 m 2706 ls [])) : W p l e room_1 s m #[Value.ref b] below meth c H locs 213 25112 Q (F0 m 2280 ls []) := by
  exact c_plan l Z x0 g0 o1 o2 (ux.1 0) (ux.1 1) (ux.1 2) (ux.1 3) (ux.1 4) (ux.1 5) (ux.1 6) (um 0) (um 1) (um 2) (um 3) (um 4) (um 5) (um 6) (um 7) (um 8) (um 9) (um 10) (um 11) (um 12) (um 13) (um 14) (um 15) (um 16) (um 17) (um 18) (um 19) (um 20) (um 22)  (hP.sub [0, 55, 57] rfl) (hD.sub [0, 55, 57] (by decide) rfl) hS (lv_sub hl [0, 1, 2, 3, 4, 5] rfl) kt
set_option maxHeartbeats 4000000 in
set_option maxRecDepth 100000 in
theorem s_31 (l : Launch) {p : Program} {e : Env} {s : State} {m : MethodId} {below : List Frame} {meth : Method} {c : Code} {D : va_G} {cy : Nat → ClassId} {A : Nat → Prop} {b : Nat} {xs : Nat → Int32} {Q : State → Prop} {H : Heap} {locs : List Loc} {ls : Array Slot} (Z : zLaw l p s m c D cy A b 9 xs) (x0 g0 o1 o2 : Nat) (ux : (Nat → Nat) × ((Nat → Nat) × (Nat → Nat)) × ((Nat → Nat) × (Nat → Nat) × (Nat → Nat)) × ((Nat → Nat) × (Nat → Nat) × (Nat → Nat)) × (Nat → Nat)) (um : Nat → Nat) (hP : va_P D vwCl (zW cy x0 g0 o1 o2 ux um) H) (hD : va_D A (zW cy x0 g0 o1 o2 ux um)) (hS : va_S A s.heap H locs) (hl : lv_has ls 9 [(0, .ref b), (1, .ref x0), (2, .ref g0), (3, .ref o1), (4, .ref o2), (5, .int 0)]) (kt : ∀ (H : Heap) (locs : List Loc) (ls : Array Slot), va_S A s.heap H locs → lv_has ls 9 [(0, .ref b), (5, .int 0)] → W p l e room_1 s m #[Value.ref b] below meth c H locs 600006 7302040 Q (F0 m 2706 ls [])) : W p l e room_1 s m #[Value.ref b] below meth c H locs 213 25112 Q (F0 m 2336 ls []) := by
  exact c_planAt l Z x0 g0 o1 o2 (ux.1 0) (ux.1 1) (ux.1 2) (ux.1 3) (ux.1 4) (ux.1 5) (ux.1 6) (um 0) (um 1) (um 2) (um 3) (um 4) (um 5) (um 6) (um 7) (um 8) (um 9) (um 10) (um 11) (um 12) (um 13) (um 14) (um 15) (um 16) (um 17) (um 18) (um 19) (um 20) (um 22)  (hP.sub [0, 55, 57] rfl) (hD.sub [0, 55, 57] (by decide) rfl) hS (lv_sub hl [0, 1, 2, 3, 4, 5] rfl) kt
set_option maxHeartbeats 4000000 in
set_option maxRecDepth 100000 in
theorem s_32 (l : Launch) {p : Program} {e : Env} {s : State} {m : MethodId} {below : List Frame} {meth : Method} {c : Code} {D : va_G} {cy : Nat → ClassId} {A : Nat → Prop} {b : Nat} {xs : Nat → Int32} {Q : State → Prop} {H : Heap} {locs : List Loc} {ls : Array Slot} (Z : zLaw l p s m c D cy A b 9 xs) (x0 g0 o1 o2 : Nat) (ux : (Nat → Nat) × ((Nat → Nat) × (Nat → Nat)) × ((Nat → Nat) × (Nat → Nat) × (Nat → Nat)) × ((Nat → Nat) × (Nat → Nat) × (Nat → Nat)) × (Nat → Nat)) (um : Nat → Nat) (hP : va_P D vwCl (zW cy x0 g0 o1 o2 ux um) H) (hD : va_D A (zW cy x0 g0 o1 o2 ux um)) (hS : va_S A s.heap H locs) (hl : lv_has ls 9 [(0, .ref b), (1, .ref x0), (2, .ref g0), (3, .ref o1), (4, .ref o2), (5, .int 0)]) (kt : ∀ (H : Heap) (locs : List Loc) (ls : Array Slot), va_S A s.heap H locs → lv_has ls 9 [(0, .ref b), (5, .int 0)] → W p l e room_1 s m #[Value.ref b] below meth c H locs 600006 7302040 Q (F0 m 2706 ls [])) : W p l e room_1 s m #[Value.ref b] below meth c H locs 213 25112 Q (F0 m 2404 ls []) := by
  exact c_lastChance l Z x0 g0 o1 o2 (ux.1 0) (ux.1 1) (ux.1 2) (ux.1 3) (ux.1 4) (ux.1 5) (ux.1 6) (um 0) (um 1) (um 2) (um 3) (um 4) (um 5) (um 6) (um 7) (um 8) (um 9) (um 10) (um 11) (um 12) (um 13) (um 14) (um 15) (um 16) (um 17) (um 18) (um 19) (um 20) (um 22)  (hP.sub [0, 55, 57] rfl) (hD.sub [0, 55, 57] (by decide) rfl) hS (lv_sub hl [0, 1, 2, 3, 4, 5] rfl) kt
set_option maxHeartbeats 4000000 in
set_option maxRecDepth 100000 in
theorem s_33 (l : Launch) {p : Program} {e : Env} {s : State} {m : MethodId} {below : List Frame} {meth : Method} {c : Code} {D : va_G} {cy : Nat → ClassId} {A : Nat → Prop} {b : Nat} {xs : Nat → Int32} {Q : State → Prop} {H : Heap} {locs : List Loc} {ls : Array Slot} (Z : zLaw l p s m c D cy A b 9 xs) (x0 g0 o1 o2 : Nat) (ux : (Nat → Nat) × ((Nat → Nat) × (Nat → Nat)) × ((Nat → Nat) × (Nat → Nat) × (Nat → Nat)) × ((Nat → Nat) × (Nat → Nat) × (Nat → Nat)) × (Nat → Nat)) (um : Nat → Nat) (hP : va_P D vwCl (zW cy x0 g0 o1 o2 ux um) H) (hD : va_D A (zW cy x0 g0 o1 o2 ux um)) (hS : va_S A s.heap H locs) (hl : lv_has ls 9 [(0, .ref b), (1, .ref x0), (2, .ref g0), (3, .ref o1), (4, .ref o2), (5, .int 0)]) (kt : ∀ (H : Heap) (locs : List Loc) (ls : Array Slot), va_S A s.heap H locs → lv_has ls 9 [(0, .ref b), (5, .int 0)] → W p l e room_1 s m #[Value.ref b] below meth c H locs 600006 7302040 Q (F0 m 2706 ls [])) : W p l e room_1 s m #[Value.ref b] below meth c H locs 213 25112 Q (F0 m 2460 ls []) := by
  exact c_stations l Z x0 g0 o1 o2 (ux.1 0) (ux.1 1) (ux.1 2) (ux.1 3) (ux.1 4) (ux.1 5) (ux.1 6) (ux.2.1.1 0) (ux.2.1.1 1) (um 0) (um 1) (um 2) (um 3) (um 4) (um 5) (um 6) (um 7) (um 8) (um 9) (um 10) (um 11) (um 12) (um 13) (um 14) (um 15) (um 16) (um 17) (um 18) (um 19) (um 20)  (hP.sub [0, 1, 55] rfl) (hD.sub [0, 1, 55] (by decide) rfl) hS (lv_sub hl [0, 1, 2, 3, 4, 5] rfl) kt
set_option maxHeartbeats 4000000 in
set_option maxRecDepth 100000 in
theorem s_34 (l : Launch) {p : Program} {e : Env} {s : State} {m : MethodId} {below : List Frame} {meth : Method} {c : Code} {D : va_G} {cy : Nat → ClassId} {A : Nat → Prop} {b : Nat} {xs : Nat → Int32} {Q : State → Prop} {H : Heap} {locs : List Loc} {ls : Array Slot} (Z : zLaw l p s m c D cy A b 9 xs) (x0 g0 o1 o2 : Nat) (ux : (Nat → Nat) × ((Nat → Nat) × (Nat → Nat)) × ((Nat → Nat) × (Nat → Nat) × (Nat → Nat)) × ((Nat → Nat) × (Nat → Nat) × (Nat → Nat)) × (Nat → Nat)) (um : Nat → Nat) (hP : va_P D vwCl (zW cy x0 g0 o1 o2 ux um) H) (hD : va_D A (zW cy x0 g0 o1 o2 ux um)) (hS : va_S A s.heap H locs) (hl : lv_has ls 9 [(0, .ref b), (1, .ref x0), (2, .ref g0), (3, .ref o1), (4, .ref o2), (5, .int 0)]) (kt : ∀ (H : Heap) (locs : List Loc) (ls : Array Slot), va_S A s.heap H locs → lv_has ls 9 [(0, .ref b), (5, .int 0)] → W p l e room_1 s m #[Value.ref b] below meth c H locs 600006 7302040 Q (F0 m 2706 ls [])) : W p l e room_1 s m #[Value.ref b] below meth c H locs 213 25112 Q (F0 m 2473 ls []) := by
  exact c_shots l Z x0 g0 o1 o2 (ux.1 0) (ux.1 1) (ux.1 2) (ux.1 3) (ux.1 4) (ux.1 5) (ux.1 6) (ux.2.1.1 0) (ux.2.1.1 1) (um 0) (um 1) (um 2) (um 3) (um 4) (um 5) (um 6) (um 7) (um 8) (um 9) (um 10) (um 11) (um 12) (um 13) (um 14) (um 15) (um 16) (um 17) (um 18) (um 19) (um 20) (um 21)  (hP.sub [0, 1, 55, 56] rfl) (hD.sub [0, 1, 55, 56] (by decide) rfl) hS (lv_sub hl [0, 1, 2, 3, 4, 5] rfl) kt
set_option maxHeartbeats 4000000 in
set_option maxRecDepth 100000 in
theorem s_35 (l : Launch) {p : Program} {e : Env} {s : State} {m : MethodId} {below : List Frame} {meth : Method} {c : Code} {D : va_G} {cy : Nat → ClassId} {A : Nat → Prop} {b : Nat} {xs : Nat → Int32} {Q : State → Prop} {H : Heap} {locs : List Loc} {ls : Array Slot} (Z : zLaw l p s m c D cy A b 9 xs) (x0 g0 o1 o2 : Nat) (ux : (Nat → Nat) × ((Nat → Nat) × (Nat → Nat)) × ((Nat → Nat) × (Nat → Nat) × (Nat → Nat)) × ((Nat → Nat) × (Nat → Nat) × (Nat → Nat)) × (Nat → Nat)) (um : Nat → Nat) (hP : va_P D vwCl (zW cy x0 g0 o1 o2 ux um) H) (hD : va_D A (zW cy x0 g0 o1 o2 ux um)) (hS : va_S A s.heap H locs) (hl : lv_has ls 9 [(0, .ref b), (1, .ref x0), (2, .ref g0), (3, .ref o1), (4, .ref o2), (5, .int 0)]) (kt : ∀ (H : Heap) (locs : List Loc) (ls : Array Slot), va_S A s.heap H locs → lv_has ls 9 [(0, .ref b), (5, .int 0)] → W p l e room_1 s m #[Value.ref b] below meth c H locs 600006 7302040 Q (F0 m 2706 ls [])) : W p l e room_1 s m #[Value.ref b] below meth c H locs 213 25112 Q (F0 m 2486 ls []) := by
  exact c_allSteps l Z x0 g0 o1 o2 (ux.1 0) (ux.1 1) (ux.1 2) (ux.1 3) (ux.1 4) (ux.1 5) (ux.1 6) (ux.2.1.1 0) (ux.2.1.1 1) (um 0) (um 1) (um 2) (um 3) (um 4) (um 5) (um 6) (um 7) (um 8) (um 9) (um 10) (um 11) (um 12) (um 13) (um 14) (um 15) (um 16) (um 17) (um 18) (um 19) (um 20) (um 21)  (hP.sub [0, 1, 55, 56] rfl) (hD.sub [0, 1, 55, 56] (by decide) rfl) hS (lv_sub hl [0, 1, 2, 3, 4, 5] rfl) kt
set_option maxHeartbeats 4000000 in
set_option maxRecDepth 100000 in
theorem s_36 (l : Launch) {p : Program} {e : Env} {s : State} {m : MethodId} {below : List Frame} {meth : Method} {c : Code} {D : va_G} {cy : Nat → ClassId} {A : Nat → Prop} {b : Nat} {xs : Nat → Int32} {Q : State → Prop} {H : Heap} {locs : List Loc} {ls : Array Slot} (Z : zLaw l p s m c D cy A b 9 xs) (x0 g0 o1 o2 : Nat) (ux : (Nat → Nat) × ((Nat → Nat) × (Nat → Nat)) × ((Nat → Nat) × (Nat → Nat) × (Nat → Nat)) × ((Nat → Nat) × (Nat → Nat) × (Nat → Nat)) × (Nat → Nat)) (um : Nat → Nat) (hP : va_P D vwCl (zW cy x0 g0 o1 o2 ux um) H) (hD : va_D A (zW cy x0 g0 o1 o2 ux um)) (hS : va_S A s.heap H locs) (hl : lv_has ls 9 [(0, .ref b), (1, .ref x0), (2, .ref g0), (3, .ref o1), (4, .ref o2), (5, .int 0)]) (kt : ∀ (H : Heap) (locs : List Loc) (ls : Array Slot), va_S A s.heap H locs → lv_has ls 9 [(0, .ref b), (5, .int 0)] → W p l e room_1 s m #[Value.ref b] below meth c H locs 600006 7302040 Q (F0 m 2706 ls [])) : W p l e room_1 s m #[Value.ref b] below meth c H locs 213 25112 Q (F0 m 2500 ls []) := by
  rcases zDay_or (xs 1) with hd | hd
  · exact c_hungShare_in l Z x0 g0 o1 o2 (ux.1 0) (ux.1 1) (ux.1 2) (ux.1 3) (ux.1 4) (ux.1 5) (ux.1 6) (ux.2.1.1 0) (ux.2.1.1 1) (um 0) (um 1) (um 2) (um 3) (um 4) (um 5) (um 6) (um 7) (um 8) (um 9) (um 10) (um 11) (um 12) (um 13) (um 14) (um 15) (um 16) (um 17) (um 18) (um 19) (um 20) hd (hP.sub [0, 1, 55] rfl) (hD.sub [0, 1, 55] (by decide) rfl) hS (lv_sub hl [0, 1, 2, 3, 4, 5] rfl) kt
  · exact c_hungShare_no l Z x0 g0 o1 o2 (ux.1 0) (ux.1 1) (ux.1 2) (ux.1 3) (ux.1 4) (ux.1 5) (ux.1 6) (um 0) (um 1) (um 2) (um 3) (um 4) (um 5) (um 6) (um 7) (um 8) (um 9) (um 10) (um 11) (um 12) (um 13) (um 14) (um 15) (um 16) (um 17) (um 18) (um 19) (um 20) hd (hP.sub [0, 55] rfl) (hD.sub [0, 55] (by decide) rfl) hS (lv_sub hl [0, 1, 2, 3, 4, 5] rfl) kt
set_option maxHeartbeats 4000000 in
set_option maxRecDepth 100000 in
theorem s_37 (l : Launch) {p : Program} {e : Env} {s : State} {m : MethodId} {below : List Frame} {meth : Method} {c : Code} {D : va_G} {cy : Nat → ClassId} {A : Nat → Prop} {b : Nat} {xs : Nat → Int32} {Q : State → Prop} {H : Heap} {locs : List Loc} {ls : Array Slot} (Z : zLaw l p s m c D cy A b 9 xs) (x0 g0 o1 o2 : Nat) (ux : (Nat → Nat) × ((Nat → Nat) × (Nat → Nat)) × ((Nat → Nat) × (Nat → Nat) × (Nat → Nat)) × ((Nat → Nat) × (Nat → Nat) × (Nat → Nat)) × (Nat → Nat)) (um : Nat → Nat) (hP : va_P D vwCl (zW cy x0 g0 o1 o2 ux um) H) (hD : va_D A (zW cy x0 g0 o1 o2 ux um)) (hS : va_S A s.heap H locs) (hl : lv_has ls 9 [(0, .ref b), (1, .ref x0), (2, .ref g0), (3, .ref o1), (4, .ref o2), (5, .int 0)]) (kt : ∀ (H : Heap) (locs : List Loc) (ls : Array Slot), va_S A s.heap H locs → lv_has ls 9 [(0, .ref b), (5, .int 0)] → W p l e room_1 s m #[Value.ref b] below meth c H locs 600006 7302040 Q (F0 m 2706 ls [])) : W p l e room_1 s m #[Value.ref b] below meth c H locs 213 25112 Q (F0 m 2578 ls []) := by
  exact c_meanRain l Z x0 g0 o1 o2 (ux.1 0) (ux.1 1) (ux.1 2) (ux.1 3) (ux.1 4) (ux.1 5) (ux.1 6) (ux.2.2.2.2 0) (ux.2.2.2.2 1) (um 0) (um 1) (um 2) (um 3) (um 4) (um 5) (um 6) (um 7) (um 8) (um 9) (um 10) (um 11) (um 12) (um 13) (um 14) (um 15) (um 16) (um 17) (um 18) (um 19) (um 20)  (hP.sub [0, 52, 53, 54, 55, 58] rfl) (hD.sub [0, 52, 53, 54, 55, 58] (by decide) rfl) hS (lv_sub hl [0, 1, 2, 3, 4, 5] rfl) kt
set_option maxHeartbeats 4000000 in
set_option maxRecDepth 100000 in
theorem s_38 (l : Launch) {p : Program} {e : Env} {s : State} {m : MethodId} {below : List Frame} {meth : Method} {c : Code} {D : va_G} {cy : Nat → ClassId} {A : Nat → Prop} {b : Nat} {xs : Nat → Int32} {Q : State → Prop} {H : Heap} {locs : List Loc} {ls : Array Slot} (Z : zLaw l p s m c D cy A b 9 xs) (x0 g0 o1 o2 : Nat) (ux : (Nat → Nat) × ((Nat → Nat) × (Nat → Nat)) × ((Nat → Nat) × (Nat → Nat) × (Nat → Nat)) × ((Nat → Nat) × (Nat → Nat) × (Nat → Nat)) × (Nat → Nat)) (um : Nat → Nat) (hP : va_P D vwCl (zW cy x0 g0 o1 o2 ux um) H) (hD : va_D A (zW cy x0 g0 o1 o2 ux um)) (hS : va_S A s.heap H locs) (hl : lv_has ls 9 [(0, .ref b), (1, .ref x0), (2, .ref g0), (3, .ref o1), (4, .ref o2), (5, .int 0)]) (kt : ∀ (H : Heap) (locs : List Loc) (ls : Array Slot), va_S A s.heap H locs → lv_has ls 9 [(0, .ref b), (5, .int 0)] → W p l e room_1 s m #[Value.ref b] below meth c H locs 600006 7302040 Q (F0 m 2706 ls [])) : W p l e room_1 s m #[Value.ref b] below meth c H locs 213 25112 Q (F0 m 2643 ls []) := by
  rcases zDay_or (xs 1) with hd | hd
  · exact c_isSound_in l Z x0 g0 o1 o2 (ux.1 0) (ux.1 1) (ux.1 2) (ux.1 3) (ux.1 4) (ux.1 5) (ux.1 6) (ux.2.1.1 0) (ux.2.1.1 1) (ux.2.1.2 0) (ux.2.1.2 1) (ux.2.1.2 2) (ux.2.1.2 3) (ux.2.2.1.1 0) (ux.2.2.1.1 1) (ux.2.2.1.1 2) (ux.2.2.1.1 3) (ux.2.2.1.1 4) (ux.2.2.1.1 5) (ux.2.2.1.1 6) (ux.2.2.1.1 7) ux.2.2.1.2.1 ux.2.2.1.2.2 (ux.2.2.2.1.1 0) (ux.2.2.2.1.1 1) (ux.2.2.2.1.1 2) (ux.2.2.2.1.1 3) (ux.2.2.2.1.1 4) (ux.2.2.2.1.1 5) (ux.2.2.2.1.1 6) (ux.2.2.2.1.1 7) ux.2.2.2.1.2.1 ux.2.2.2.1.2.2 (um 0) (um 1) (um 2) (um 3) (um 4) (um 5) (um 6) (um 7) (um 8) (um 9) (um 10) (um 11) (um 12) (um 13) (um 14) (um 15) (um 16) (um 17) (um 18) (um 19) (um 20) hd (hP.sub (0 :: 1 :: 2 :: 3 :: 4 :: 5 :: 6 :: 27 :: 7 :: 8 :: 9 :: 10 :: 11 :: 12 :: 13 :: 14 :: 15 :: 16 :: 17 :: 18 :: 19 :: 20 :: 21 :: 22 :: 23 :: 24 :: 25 :: 26 :: 28 :: 29 :: 30 :: 51 :: 31 :: 32 :: 33 :: 34 :: 35 :: 36 :: 37 :: 38 :: 39 :: 40 :: 41 :: 42 :: 43 :: 44 :: 45 :: 46 :: 47 :: 48 :: 49 :: 50 :: 66 :: 55 :: []) rfl) (hD.sub (0 :: 1 :: 2 :: 3 :: 4 :: 5 :: 6 :: 27 :: 7 :: 8 :: 9 :: 10 :: 11 :: 12 :: 13 :: 14 :: 15 :: 16 :: 17 :: 18 :: 19 :: 20 :: 21 :: 22 :: 23 :: 24 :: 25 :: 26 :: 28 :: 29 :: 30 :: 51 :: 31 :: 32 :: 33 :: 34 :: 35 :: 36 :: 37 :: 38 :: 39 :: 40 :: 41 :: 42 :: 43 :: 44 :: 45 :: 46 :: 47 :: 48 :: 49 :: 50 :: 66 :: 55 :: []) (by decide) rfl) hS (lv_sub hl [0, 1, 2, 3, 4, 5] rfl) kt
  · exact c_isSound_no l Z x0 g0 o1 o2 (ux.1 0) (ux.1 1) (ux.1 2) (ux.1 3) (ux.1 4) (ux.1 5) (ux.1 6) (um 0) (um 1) (um 2) (um 3) (um 4) (um 5) (um 6) (um 7) (um 8) (um 9) (um 10) (um 11) (um 12) (um 13) (um 14) (um 15) (um 16) (um 17) (um 18) (um 19) (um 20) hd (hP.sub [0, 55] rfl) (hD.sub [0, 55] (by decide) rfl) hS (lv_sub hl [0, 1, 2, 3, 4, 5] rfl) kt
set_option maxHeartbeats 4000000 in
set_option maxRecDepth 100000 in
theorem law_sw (l : Launch) {p : Program} {e : Env} {s : State} {m : MethodId} {below : List Frame} {meth : Method} {c : Code} {D : va_G} {cy : Nat → ClassId} {A : Nat → Prop} {b : Nat} {xs : Nat → Int32} {Q : State → Prop} {H : Heap} {locs : List Loc} {ls : Array Slot} (Z : zLaw l p s m c D cy A b 9 xs) (x0 g0 o1 o2 : Nat) (ux : (Nat → Nat) × ((Nat → Nat) × (Nat → Nat)) × ((Nat → Nat) × (Nat → Nat) × (Nat → Nat)) × ((Nat → Nat) × (Nat → Nat) × (Nat → Nat)) × (Nat → Nat)) (um : Nat → Nat) (hP : va_P D vwCl (zW cy x0 g0 o1 o2 ux um) H) (hD : va_D A (zW cy x0 g0 o1 o2 ux um)) (hS : va_S A s.heap H locs) (hl : lv_has ls 9 [(0, .ref b), (1, .ref x0), (2, .ref g0), (3, .ref o1), (4, .ref o2), (5, .int 0)]) (kt : ∀ (H : Heap) (locs : List Loc) (ls : Array Slot), va_S A s.heap H locs → lv_has ls 9 [(0, .ref b), (5, .int 0)] → W p l e room_1 s m #[Value.ref b] below meth c H locs 600006 7302040 Q (F0 m 2706 ls [])) : W p l e room_1 s m #[Value.ref b] below meth c H locs 213 25112 Q (F0 m 38 ls []) := by
  obtain ⟨hx, hb, hml, hown, hts, hK, hX, hY, hA, hXs, hbl, hbA, hlt⟩ := id Z
  refine lv_aload_n hx hb dL_law_38 rfl (lv_at hl 0 rfl) ?_
  refine lv_iload hx hb dL_law_39 (lv_at hl 5 rfl) ?_
  refine va_sld hx hb hXs hbl hbA hS (z_in 0 (by decide) (by decide)) dL_law_41 ?_
  refine lv_bipush (v := 63) hx hb dL_law_42 (by decide) ?_
  refine lv_iand hx hb dL_law_44 ?_
  obtain ⟨j, hj, ej⟩ := pk_andE (xs (0 : Int32).toNatClampNeg) (m := 63) 6 (by decide +kernel)
  refine lv_topi (fun y1 e1 => ?_)
  obtain rfl : y1 = nI j := e1.trans ej
  rcases Nat.lt_or_ge j 39 with h39 | h39
  · skip
    rcases Nat.lt_or_ge j 19 with h19 | h19
    · skip
      rcases Nat.lt_or_ge j 9 with h9 | h9
      · skip
        rcases Nat.lt_or_ge j 4 with h4 | h4
        · skip
          rcases Nat.lt_or_ge j 2 with h2 | h2
          · skip
            rcases Nat.lt_or_ge j 1 with h1 | h1
            · skip
              obtain rfl : j = 0 := by omega
              refine lv_tableIn (off := 171) (tgt := 216) hx hb dL_law_45 (by decide +kernel) (by decide +kernel) (by decide +kernel) (by decide) ?_
              exact s_0 l Z x0 g0 o1 o2 ux um hP hD hS hl kt
            · skip
              obtain rfl : j = 1 := by omega
              refine lv_tableIn (off := 215) (tgt := 260) hx hb dL_law_45 (by decide +kernel) (by decide +kernel) (by decide +kernel) (by decide) ?_
              exact s_1 l Z x0 g0 o1 o2 ux um hP hD hS hl kt
          · skip
            rcases Nat.lt_or_ge j 3 with h3 | h3
            · skip
              obtain rfl : j = 2 := by omega
              refine lv_tableIn (off := 361) (tgt := 406) hx hb dL_law_45 (by decide +kernel) (by decide +kernel) (by decide +kernel) (by decide) ?_
              exact s_2 l Z x0 g0 o1 o2 ux um hP hD hS hl kt
            · skip
              obtain rfl : j = 3 := by omega
              refine lv_tableIn (off := 436) (tgt := 481) hx hb dL_law_45 (by decide +kernel) (by decide +kernel) (by decide +kernel) (by decide) ?_
              exact s_3 l Z x0 g0 o1 o2 ux um hP hD hS hl kt
        · skip
          rcases Nat.lt_or_ge j 6 with h6 | h6
          · skip
            rcases Nat.lt_or_ge j 5 with h5 | h5
            · skip
              obtain rfl : j = 4 := by omega
              refine lv_tableIn (off := 523) (tgt := 568) hx hb dL_law_45 (by decide +kernel) (by decide +kernel) (by decide +kernel) (by decide) ?_
              exact s_4 l Z x0 g0 o1 o2 ux um hP hD hS hl kt
            · skip
              obtain rfl : j = 5 := by omega
              refine lv_tableIn (off := 591) (tgt := 636) hx hb dL_law_45 (by decide +kernel) (by decide +kernel) (by decide +kernel) (by decide) ?_
              exact s_5 l Z x0 g0 o1 o2 ux um hP hD hS hl kt
          · skip
            rcases Nat.lt_or_ge j 7 with h7 | h7
            · skip
              obtain rfl : j = 6 := by omega
              refine lv_tableIn (off := 666) (tgt := 711) hx hb dL_law_45 (by decide +kernel) (by decide +kernel) (by decide +kernel) (by decide) ?_
              exact s_6 l Z x0 g0 o1 o2 ux um hP hD hS hl kt
            · skip
              rcases Nat.lt_or_ge j 8 with h8 | h8
              · skip
                obtain rfl : j = 7 := by omega
                refine lv_tableIn (off := 745) (tgt := 790) hx hb dL_law_45 (by decide +kernel) (by decide +kernel) (by decide +kernel) (by decide) ?_
                exact s_7 l Z x0 g0 o1 o2 ux um hP hD hS hl kt
              · skip
                obtain rfl : j = 8 := by omega
                refine lv_tableIn (off := 824) (tgt := 869) hx hb dL_law_45 (by decide +kernel) (by decide +kernel) (by decide +kernel) (by decide) ?_
                exact s_8 l Z x0 g0 o1 o2 ux um hP hD hS hl kt
      · skip
        rcases Nat.lt_or_ge j 14 with h14 | h14
        · skip
          rcases Nat.lt_or_ge j 11 with h11 | h11
          · skip
            rcases Nat.lt_or_ge j 10 with h10 | h10
            · skip
              obtain rfl : j = 9 := by omega
              refine lv_tableIn (off := 880) (tgt := 925) hx hb dL_law_45 (by decide +kernel) (by decide +kernel) (by decide +kernel) (by decide) ?_
              exact s_9 l Z x0 g0 o1 o2 ux um hP hD hS hl kt
            · skip
              obtain rfl : j = 10 := by omega
              refine lv_tableIn (off := 947) (tgt := 992) hx hb dL_law_45 (by decide +kernel) (by decide +kernel) (by decide +kernel) (by decide) ?_
              exact s_10 l Z x0 g0 o1 o2 ux um hP hD hS hl kt
          · skip
            rcases Nat.lt_or_ge j 12 with h12 | h12
            · skip
              obtain rfl : j = 11 := by omega
              refine lv_tableIn (off := 1002) (tgt := 1047) hx hb dL_law_45 (by decide +kernel) (by decide +kernel) (by decide +kernel) (by decide) ?_
              exact s_11 l Z x0 g0 o1 o2 ux um hP hD hS hl kt
            · skip
              rcases Nat.lt_or_ge j 13 with h13 | h13
              · skip
                obtain rfl : j = 12 := by omega
                refine lv_tableIn (off := 1058) (tgt := 1103) hx hb dL_law_45 (by decide +kernel) (by decide +kernel) (by decide +kernel) (by decide) ?_
                exact s_12 l Z x0 g0 o1 o2 ux um hP hD hS hl kt
              · skip
                obtain rfl : j = 13 := by omega
                refine lv_tableIn (off := 1114) (tgt := 1159) hx hb dL_law_45 (by decide +kernel) (by decide +kernel) (by decide +kernel) (by decide) ?_
                exact s_13 l Z x0 g0 o1 o2 ux um hP hD hS hl kt
        · skip
          rcases Nat.lt_or_ge j 16 with h16 | h16
          · skip
            rcases Nat.lt_or_ge j 15 with h15 | h15
            · skip
              obtain rfl : j = 14 := by omega
              refine lv_tableIn (off := 1169) (tgt := 1214) hx hb dL_law_45 (by decide +kernel) (by decide +kernel) (by decide +kernel) (by decide) ?_
              exact s_14 l Z x0 g0 o1 o2 ux um hP hD hS hl kt
            · skip
              obtain rfl : j = 15 := by omega
              refine lv_tableIn (off := 1237) (tgt := 1282) hx hb dL_law_45 (by decide +kernel) (by decide +kernel) (by decide +kernel) (by decide) ?_
              exact s_15 l Z x0 g0 o1 o2 ux um hP hD hS hl kt
          · skip
            rcases Nat.lt_or_ge j 17 with h17 | h17
            · skip
              obtain rfl : j = 16 := by omega
              refine lv_tableIn (off := 1329) (tgt := 1374) hx hb dL_law_45 (by decide +kernel) (by decide +kernel) (by decide +kernel) (by decide) ?_
              exact s_16 l Z x0 g0 o1 o2 ux um hP hD hS hl kt
            · skip
              rcases Nat.lt_or_ge j 18 with h18 | h18
              · skip
                obtain rfl : j = 17 := by omega
                refine lv_tableIn (off := 1397) (tgt := 1442) hx hb dL_law_45 (by decide +kernel) (by decide +kernel) (by decide +kernel) (by decide) ?_
                exact s_17 l Z x0 g0 o1 o2 ux um hP hD hS hl kt
              · skip
                obtain rfl : j = 18 := by omega
                refine lv_tableIn (off := 1465) (tgt := 1510) hx hb dL_law_45 (by decide +kernel) (by decide +kernel) (by decide +kernel) (by decide) ?_
                exact s_18 l Z x0 g0 o1 o2 ux um hP hD hS hl kt
    · skip
      rcases Nat.lt_or_ge j 29 with h29 | h29
      · skip
        rcases Nat.lt_or_ge j 24 with h24 | h24
        · skip
          rcases Nat.lt_or_ge j 21 with h21 | h21
          · skip
            rcases Nat.lt_or_ge j 20 with h20 | h20
            · skip
              obtain rfl : j = 19 := by omega
              refine lv_tableIn (off := 1521) (tgt := 1566) hx hb dL_law_45 (by decide +kernel) (by decide +kernel) (by decide +kernel) (by decide) ?_
              exact s_19 l Z x0 g0 o1 o2 ux um hP hD hS hl kt
            · skip
              obtain rfl : j = 20 := by omega
              refine lv_tableIn (off := 1589) (tgt := 1634) hx hb dL_law_45 (by decide +kernel) (by decide +kernel) (by decide +kernel) (by decide) ?_
              exact s_20 l Z x0 g0 o1 o2 ux um hP hD hS hl kt
          · skip
            rcases Nat.lt_or_ge j 22 with h22 | h22
            · skip
              obtain rfl : j = 21 := by omega
              refine lv_tableIn (off := 1645) (tgt := 1690) hx hb dL_law_45 (by decide +kernel) (by decide +kernel) (by decide +kernel) (by decide) ?_
              exact s_21 l Z x0 g0 o1 o2 ux um hP hD hS hl kt
            · skip
              rcases Nat.lt_or_ge j 23 with h23 | h23
              · skip
                obtain rfl : j = 22 := by omega
                refine lv_tableIn (off := 1713) (tgt := 1758) hx hb dL_law_45 (by decide +kernel) (by decide +kernel) (by decide +kernel) (by decide) ?_
                exact s_22 l Z x0 g0 o1 o2 ux um hP hD hS hl kt
              · skip
                obtain rfl : j = 23 := by omega
                refine lv_tableIn (off := 1788) (tgt := 1833) hx hb dL_law_45 (by decide +kernel) (by decide +kernel) (by decide +kernel) (by decide) ?_
                exact s_23 l Z x0 g0 o1 o2 ux um hP hD hS hl kt
        · skip
          rcases Nat.lt_or_ge j 26 with h26 | h26
          · skip
            rcases Nat.lt_or_ge j 25 with h25 | h25
            · skip
              obtain rfl : j = 24 := by omega
              refine lv_tableIn (off := 1844) (tgt := 1889) hx hb dL_law_45 (by decide +kernel) (by decide +kernel) (by decide +kernel) (by decide) ?_
              exact s_24 l Z x0 g0 o1 o2 ux um hP hD hS hl kt
            · skip
              obtain rfl : j = 25 := by omega
              refine lv_tableIn (off := 1912) (tgt := 1957) hx hb dL_law_45 (by decide +kernel) (by decide +kernel) (by decide +kernel) (by decide) ?_
              exact s_25 l Z x0 g0 o1 o2 ux um hP hD hS hl kt
          · skip
            rcases Nat.lt_or_ge j 27 with h27 | h27
            · skip
              obtain rfl : j = 26 := by omega
              refine lv_tableIn (off := 1987) (tgt := 2032) hx hb dL_law_45 (by decide +kernel) (by decide +kernel) (by decide +kernel) (by decide) ?_
              exact s_26 l Z x0 g0 o1 o2 ux um hP hD hS hl kt
            · skip
              rcases Nat.lt_or_ge j 28 with h28 | h28
              · skip
                obtain rfl : j = 27 := by omega
                refine lv_tableIn (off := 2055) (tgt := 2100) hx hb dL_law_45 (by decide +kernel) (by decide +kernel) (by decide +kernel) (by decide) ?_
                exact s_27 l Z x0 g0 o1 o2 ux um hP hD hS hl kt
              · skip
                obtain rfl : j = 28 := by omega
                refine lv_tableIn (off := 2123) (tgt := 2168) hx hb dL_law_45 (by decide +kernel) (by decide +kernel) (by decide +kernel) (by decide) ?_
                exact s_28 l Z x0 g0 o1 o2 ux um hP hD hS hl kt
      · skip
        rcases Nat.lt_or_ge j 34 with h34 | h34
        · skip
          rcases Nat.lt_or_ge j 31 with h31 | h31
          · skip
            rcases Nat.lt_or_ge j 30 with h30 | h30
            · skip
              obtain rfl : j = 29 := by omega
              refine lv_tableIn (off := 2179) (tgt := 2224) hx hb dL_law_45 (by decide +kernel) (by decide +kernel) (by decide +kernel) (by decide) ?_
              exact s_29 l Z x0 g0 o1 o2 ux um hP hD hS hl kt
            · skip
              obtain rfl : j = 30 := by omega
              refine lv_tableIn (off := 2235) (tgt := 2280) hx hb dL_law_45 (by decide +kernel) (by decide +kernel) (by decide +kernel) (by decide) ?_
              exact s_30 l Z x0 g0 o1 o2 ux um hP hD hS hl kt
          · skip
            rcases Nat.lt_or_ge j 32 with h32 | h32
            · skip
              obtain rfl : j = 31 := by omega
              refine lv_tableIn (off := 2291) (tgt := 2336) hx hb dL_law_45 (by decide +kernel) (by decide +kernel) (by decide +kernel) (by decide) ?_
              exact s_31 l Z x0 g0 o1 o2 ux um hP hD hS hl kt
            · skip
              rcases Nat.lt_or_ge j 33 with h33 | h33
              · skip
                obtain rfl : j = 32 := by omega
                refine lv_tableIn (off := 2359) (tgt := 2404) hx hb dL_law_45 (by decide +kernel) (by decide +kernel) (by decide +kernel) (by decide) ?_
                exact s_32 l Z x0 g0 o1 o2 ux um hP hD hS hl kt
              · skip
                obtain rfl : j = 33 := by omega
                refine lv_tableIn (off := 2415) (tgt := 2460) hx hb dL_law_45 (by decide +kernel) (by decide +kernel) (by decide +kernel) (by decide) ?_
                exact s_33 l Z x0 g0 o1 o2 ux um hP hD hS hl kt
        · skip
          rcases Nat.lt_or_ge j 36 with h36 | h36
          · skip
            rcases Nat.lt_or_ge j 35 with h35 | h35
            · skip
              obtain rfl : j = 34 := by omega
              refine lv_tableIn (off := 2428) (tgt := 2473) hx hb dL_law_45 (by decide +kernel) (by decide +kernel) (by decide +kernel) (by decide) ?_
              exact s_34 l Z x0 g0 o1 o2 ux um hP hD hS hl kt
            · skip
              obtain rfl : j = 35 := by omega
              refine lv_tableIn (off := 2441) (tgt := 2486) hx hb dL_law_45 (by decide +kernel) (by decide +kernel) (by decide +kernel) (by decide) ?_
              exact s_35 l Z x0 g0 o1 o2 ux um hP hD hS hl kt
          · skip
            rcases Nat.lt_or_ge j 37 with h37 | h37
            · skip
              obtain rfl : j = 36 := by omega
              refine lv_tableIn (off := 2455) (tgt := 2500) hx hb dL_law_45 (by decide +kernel) (by decide +kernel) (by decide +kernel) (by decide) ?_
              exact s_36 l Z x0 g0 o1 o2 ux um hP hD hS hl kt
            · skip
              rcases Nat.lt_or_ge j 38 with h38 | h38
              · skip
                obtain rfl : j = 37 := by omega
                refine lv_tableIn (off := 2533) (tgt := 2578) hx hb dL_law_45 (by decide +kernel) (by decide +kernel) (by decide +kernel) (by decide) ?_
                exact s_37 l Z x0 g0 o1 o2 ux um hP hD hS hl kt
              · skip
                obtain rfl : j = 38 := by omega
                refine lv_tableIn (off := 2598) (tgt := 2643) hx hb dL_law_45 (by decide +kernel) (by decide +kernel) (by decide +kernel) (by decide) ?_
                exact s_38 l Z x0 g0 o1 o2 ux um hP hD hS hl kt
  · refine lv_tableOut (tgt := 2706) hx hb dL_law_45 (Or.inr (by rw [nI_toInt (by omega)]; omega)) (by decide) ?_
    exact W.widen (k := 600006) (n := 7302040) (Nat.le_of_ble_eq_true rfl) (Nat.le_of_ble_eq_true rfl) (kt _ _ _ hS (lv_sub hl [0, 5] rfl))
