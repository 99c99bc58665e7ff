section
noncomputable def wSR_l0 (cy : Nat → ClassId) (h0 : Nat) (u : (Nat → Nat) × (Nat → Nat → Nat → Nat)) : va_W := [(h0, .inr (11, [.ref (u.1 0), .ref (u.1 1), .ref (u.1 2), .ref (u.1 3), .ref (u.1 4), .ref (u.1 5), .int 0, .ref (u.1 6), .ref (u.1 7), .ref (u.1 8), .ref (u.1 9), .ref (u.1 10), .ref (u.1 11)])), ((u.1 5), .inl (cy 8, 10, .inr (.inr (.inr (.inr (fun _ => none))))))]
noncomputable def wSR_l1 (cy : Nat → ClassId) (h0 : Nat) (u : (Nat → Nat) × (Nat → Nat → Nat → Nat)) : va_W := [((u.1 11), .inr (7, [.ref (u.2 0 0 0), .ref (u.2 0 0 1), .ref (u.2 0 0 2), .ref (u.2 0 0 3)])), ((u.2 0 0 2), .inl (cy 0, 6, .inl (fun _ => 0))), ((u.2 0 0 3), .inl (cy 7, 6, .inr (.inr (.inr (.inr (fun i => if i < 6 then some ((u.2 0 1) i) else none)))))), ((u.2 0 0 0), .inl (cy 0, 6, .inl (fun _ => (-1)))), ((u.2 0 0 1), .inl (cy 0, 6, .inl (fun _ => (-1))))]
noncomputable def wSR_l2 (cy : Nat → ClassId) (h0 : Nat) (u : (Nat → Nat) × (Nat → Nat → Nat → Nat)) : va_W := ((List.range 6).map (fun i => ((u.2 0 1) i, .inl (cy 4, 60, .inr (.inl (fun _ => 0))))))
noncomputable def wSR_l3 (cy : Nat → ClassId) (h0 : Nat) (u : (Nat → Nat) × (Nat → Nat → Nat → Nat)) : va_W := [((u.1 10), .inr (0, [.ref (u.2 1 0 0), .int 0, .int 0, .int 0, .int 0])), ((u.2 1 0 0), .inl (cy 0, 24, .inl (fun _ => 0)))]
noncomputable def wSR_l4 (cy : Nat → ClassId) (h0 : Nat) (u : (Nat → Nat) × (Nat → Nat → Nat → Nat)) : va_W := [((u.1 9), .inr (10, [.ref (u.2 2 0 0), .int 0, .int (-1), .ref (u.2 2 0 1), .ref (u.1 1)])), ((u.2 2 0 0), .inl (cy 0, 6, .inl (fun _ => 0))), ((u.2 2 0 1), .inl (cy 0, 12, .inl (fun _ => 0)))]
noncomputable def wSR_l5 (cy : Nat → ClassId) (h0 : Nat) (u : (Nat → Nat) × (Nat → Nat → Nat → Nat)) : va_W := [((u.1 8), .inr (5, [.ref (u.2 3 0 0), .int 0, .ref (u.2 3 0 1), .int 0, .ref (u.2 3 0 2), .ref (u.2 3 0 3), .ref (u.1 2), .ref (u.1 1), .ref (u.1 4), .ref (u.1 3)])), ((u.2 3 0 0), .inl (cy 0, 5, .inl (fun _ => 0))), ((u.2 3 0 1), .inl (cy 0, 5, .inl (fun _ => 0))), ((u.2 3 0 2), .inl (cy 6, 32, .inr (.inr (.inr (.inr (fun i => if i < 32 then some ((u.2 3 1) i) else none)))))), ((u.2 3 0 3), .inl (cy 0, 32, .inl (fun _ => 0)))]
noncomputable def wSR_l6 (cy : Nat → ClassId) (h0 : Nat) (u : (Nat → Nat) × (Nat → Nat → Nat → Nat)) : va_W := ((List.range 32).map (fun i => ((u.2 3 1) i, .inl (cy 0, 40, .inl (fun _ => 0)))))
noncomputable def wSR_l7 (cy : Nat → ClassId) (h0 : Nat) (u : (Nat → Nat) × (Nat → Nat → Nat → Nat)) : va_W := [((u.1 7), .inr (6, [.ref (u.2 4 0 0), .ref (u.2 4 0 1), .ref (u.2 4 0 2), .ref (u.2 4 0 3), .ref (u.2 4 0 4), .ref (u.2 4 0 5), .ref (u.2 4 0 6), .ref (u.2 4 0 7), .int 0, .ref (u.1 2), .ref (u.1 1), .ref (u.1 4)])), ((u.2 4 0 0), .inl (cy 6, 12, .inr (.inr (.inr (.inr (fun i => if i < 12 then some ((u.2 4 5) i) else none)))))), ((u.2 4 0 1), .inl (cy 6, 12, .inr (.inr (.inr (.inr (fun i => if i < 12 then some ((u.2 4 4) i) else none)))))), ((u.2 4 0 2), .inl (cy 6, 12, .inr (.inr (.inr (.inr (fun i => if i < 12 then some ((u.2 4 3) i) else none)))))), ((u.2 4 0 3), .inl (cy 6, 12, .inr (.inr (.inr (.inr (fun i => if i < 12 then some ((u.2 4 2) i) else none)))))), ((u.2 4 0 4), .inl (cy 6, 12, .inr (.inr (.inr (.inr (fun i => if i < 12 then some ((u.2 4 1) i) else none)))))), ((u.2 4 0 5), .inl (cy 0, 40, .inl (fun _ => 0))), ((u.2 4 0 6), .inl (cy 0, 16, .inl (fun _ => 0))), ((u.2 4 0 7), .inl (cy 0, 16, .inl (fun _ => 0)))]
noncomputable def wSR_l8 (cy : Nat → ClassId) (h0 : Nat) (u : (Nat → Nat) × (Nat → Nat → Nat → Nat)) : va_W := ((List.range 12).map (fun i => ((u.2 4 1) i, .inl (cy 0, 40, .inl (fun _ => 0)))))
noncomputable def wSR_l9 (cy : Nat → ClassId) (h0 : Nat) (u : (Nat → Nat) × (Nat → Nat → Nat → Nat)) : va_W := ((List.range 12).map (fun i => ((u.2 4 2) i, .inl (cy 0, 40, .inl (fun _ => 0)))))
noncomputable def wSR_l10 (cy : Nat → ClassId) (h0 : Nat) (u : (Nat → Nat) × (Nat → Nat → Nat → Nat)) : va_W := ((List.range 12).map (fun i => ((u.2 4 3) i, .inl (cy 0, 40, .inl (fun _ => 0)))))
noncomputable def wSR_l11 (cy : Nat → ClassId) (h0 : Nat) (u : (Nat → Nat) × (Nat → Nat → Nat → Nat)) : va_W := ((List.range 12).map (fun i => ((u.2 4 4) i, .inl (cy 0, 40, .inl (fun _ => 0)))))
noncomputable def wSR_l12 (cy : Nat → ClassId) (h0 : Nat) (u : (Nat → Nat) × (Nat → Nat → Nat → Nat)) : va_W := ((List.range 12).map (fun i => ((u.2 4 5) i, .inl (cy 0, 40, .inl (fun _ => 0)))))
noncomputable def wSR_l13 (cy : Nat → ClassId) (h0 : Nat) (u : (Nat → Nat) × (Nat → Nat → Nat → Nat)) : va_W := [((u.1 6), .inr (8, [.int 0, .int 0, .int 1, .int 1, .int 0, .int 0, .int 0, .int 0, .ref (u.2 5 0 0), .ref (u.2 5 0 1), .ref (u.2 5 0 2), .ref (u.2 5 0 3), .ref (u.2 5 0 4)])), ((u.2 5 0 0), .inl (cy 0, 12, .inl (fun _ => 0))), ((u.2 5 0 1), .inl (cy 0, 12, .inl (fun _ => 0))), ((u.2 5 0 2), .inl (cy 1, 80, .inl (fun _ => 0))), ((u.2 5 0 3), .inl (cy 1, 1000, .inl (fun _ => 0))), ((u.2 5 0 4), .inl (cy 3, 1000, .inl (fun _ => 0)))]
noncomputable def wSR_l14 (cy : Nat → ClassId) (h0 : Nat) (u : (Nat → Nat) × (Nat → Nat → Nat → Nat)) : va_W := [((u.1 4), .inr (1, [.ref (u.2 6 0 0), .ref (u.2 6 0 1), .int 0, .int 0, .int 0, .int 0, .int 0, .ref (u.2 6 0 2), .ref (u.1 2)])), ((u.2 6 0 0), .inl (cy 0, 12, .inl (fun _ => 0))), ((u.2 6 0 1), .inl (cy 0, 12, .inl (fun _ => 0))), ((u.2 6 0 2), .inl (cy 0, 12, .inl (fun _ => 0)))]
noncomputable def wSR_l15 (cy : Nat → ClassId) (h0 : Nat) (u : (Nat → Nat) × (Nat → Nat → Nat → Nat)) : va_W := [((u.1 3), .inr (3, [.ref (u.2 7 0 0), .int 0, .int 0, .int (-1), .int 0, .int 0, .int 0, .int 0])), ((u.2 7 0 0), .inl (cy 1, 0, .inl (fun _ => 0)))]
noncomputable def wSR_l16 (cy : Nat → ClassId) (h0 : Nat) (u : (Nat → Nat) × (Nat → Nat → Nat → Nat)) : va_W := [((u.1 2), .inr (2, [.ref (u.2 8 0 0), .ref (u.2 8 0 1), .ref (u.2 8 0 2), .ref (u.2 8 0 3), .ref (u.2 8 0 4), .int 0])), ((u.2 8 0 0), .inl (cy 0, 12, .inl (fun _ => 0))), ((u.2 8 0 1), .inl (cy 0, 12, .inl (fun _ => 0))), ((u.2 8 0 2), .inl (cy 0, 12, .inl (fun _ => 0))), ((u.2 8 0 3), .inl (cy 0, 12, .inl (fun _ => 0))), ((u.2 8 0 4), .inl (cy 2, 12, .inl (fun _ => 0)))]
noncomputable def wSR_l17 (cy : Nat → ClassId) (h0 : Nat) (u : (Nat → Nat) × (Nat → Nat → Nat → Nat)) : va_W := [((u.1 1), .inr (4, [.ref (u.2 9 0 0), .ref (u.2 9 0 1), .ref (u.2 9 0 2), .int 0])), ((u.2 9 0 0), .inl (cy 5, 40, .inr (.inr (.inr (.inr (fun i => if i < 40 then some ((u.2 9 1) i) else none)))))), ((u.2 9 0 1), .inl (cy 0, 40, .inl (fun _ => 0))), ((u.2 9 0 2), .inl (cy 1, 6, .inl (fun _ => 0)))]
noncomputable def wSR_l18 (cy : Nat → ClassId) (h0 : Nat) (u : (Nat → Nat) × (Nat → Nat → Nat → Nat)) : va_W := ((List.range 40).map (fun i => ((u.2 9 1) i, .inl (cy 1, 6, .inl (fun _ => 0)))))
noncomputable def wSR_l19 (cy : Nat → ClassId) (h0 : Nat) (u : (Nat → Nat) × (Nat → Nat → Nat → Nat)) : va_W := [((u.1 0), .inr (9, [.ref (u.2 10 0 0), .int 0])), ((u.2 10 0 0), .inl (cy 1, 80, .inl (fun _ => 0)))]
noncomputable def wSR (cy : Nat → ClassId) (h0 : Nat) (u : (Nat → Nat) × (Nat → Nat → Nat → Nat)) : va_W := ((wSR_l0 cy h0 u) ++ (((wSR_l1 cy h0 u) ++ (wSR_l2 cy h0 u)) ++ ((wSR_l3 cy h0 u) ++ ((wSR_l4 cy h0 u) ++ (((wSR_l5 cy h0 u) ++ (wSR_l6 cy h0 u)) ++ (((wSR_l7 cy h0 u) ++ ((wSR_l8 cy h0 u) ++ ((wSR_l9 cy h0 u) ++ ((wSR_l10 cy h0 u) ++ ((wSR_l11 cy h0 u) ++ (wSR_l12 cy h0 u)))))) ++ ((wSR_l13 cy h0 u) ++ ((wSR_l14 cy h0 u) ++ ((wSR_l15 cy h0 u) ++ ((wSR_l16 cy h0 u) ++ (((wSR_l17 cy h0 u) ++ (wSR_l18 cy h0 u)) ++ (wSR_l19 cy h0 u))))))))))))
noncomputable def adC (h0 : Nat) (u : (Nat → Nat) × (Nat → Nat → Nat → Nat)) (k : Nat) : Nat := if k < 44 then ([h0, (u.1 0), (u.2 10 0 0), (u.1 1), (u.2 9 0 0), (u.2 9 0 1), (u.2 9 0 2), (u.1 2), (u.2 8 0 0), (u.2 8 0 1), (u.2 8 0 2), (u.2 8 0 3), (u.2 8 0 4), (u.1 3), (u.1 4), (u.2 6 0 0), (u.2 6 0 1), (u.2 6 0 2), (u.1 7), (u.2 4 0 0), (u.2 4 0 1), (u.2 4 0 2), (u.2 4 0 3), (u.2 4 0 4), (u.2 4 0 5), (u.2 4 0 6), (u.2 4 0 7), (u.1 8), (u.2 3 0 0), (u.2 3 0 1), (u.2 3 0 2), (u.2 3 0 3), (u.1 9), (u.2 2 0 0), (u.2 2 0 1), (u.1 10), (u.2 1 0 0), (u.1 11), (u.2 0 0 0), (u.2 0 0 1), (u.2 0 0 2), (u.2 0 0 3), (u.1 5), (u.2 7 0 0)] : List Nat).getD k 0 else if k < 84 then (u.2 9 1) (k - 44) else if k < 96 then (u.2 4 5) (k - 84) else if k < 108 then (u.2 4 4) (k - 96) else if k < 120 then (u.2 4 3) (k - 108) else if k < 132 then (u.2 4 2) (k - 120) else if k < 144 then (u.2 4 1) (k - 132) else if k < 176 then (u.2 3 1) (k - 144) else if k < 182 then (u.2 0 1) (k - 176) else ([(u.1 6), (u.2 5 0 0), (u.2 5 0 1), (u.2 5 0 2), (u.2 5 0 3), (u.2 5 0 4)] : List Nat).getD (k - 182) 0
noncomputable def sC (k i : Nat) : Int32 := if k < 182 then (match k with | 13 => (match i with | 3 => (-1) | _ => 0) | 32 => (match i with | 2 => (-1) | _ => 0) | 38 => (-1) | 39 => (-1) | _ => 0) else if (k - 182) % 6 = 0 then (match i with | 2 => 1 | 3 => 1 | _ => 0) else 0
noncomputable def stC : S2 := (sC, fun _ _ => 0)
theorem isC_nd : va_nd ([0, 186, 187, 142, 143, 144, 145, 136, 137, 138, 139, 140, 141, 134, 130, 131, 132, 133, 55, 56, 57, 58, 59, 60, 61, 62, 63, 18, 19, 20, 21, 22, 15, 16, 17, 13, 14, 2, 5, 6, 3, 4, 1, 135, 146, 147, 148, 149, 150, 151, 152, 153, 154, 155, 156, 157, 158, 159, 160, 161, 162, 163, 164, 165, 166, 167, 168, 169, 170, 171, 172, 173, 174, 175, 176, 177, 178, 179, 180, 181, 182, 183, 184, 185, 112, 113, 114, 115, 116, 117, 118, 119, 120, 121, 122, 123, 100, 101, 102, 103, 104, 105, 106, 107, 108, 109, 110, 111, 88, 89, 90, 91, 92, 93, 94, 95, 96, 97, 98, 99, 76, 77, 78, 79, 80, 81, 82, 83, 84, 85, 86, 87, 64, 65, 66, 67, 68, 69, 70, 71, 72, 73, 74, 75, 23, 24, 25, 26, 27, 28, 29, 30, 31, 32, 33, 34, 35, 36, 37, 38, 39, 40, 41, 42, 43, 44, 45, 46, 47, 48, 49, 50, 51, 52, 53, 54, 7, 8, 9, 10, 11, 12, 124, 125, 126, 127, 128, 129] : List Nat) = true := by decide +kernel
theorem fm_of {α : Type} {f : Nat → Option α} {l : List Nat} {ws : List α} (h : l.map f = ws.map some) : l.filterMap f = ws := by
  have e : l.filterMap f = (l.map f).filterMap id := by rw [List.filterMap_map]; rfl
  rw [e, h, List.filterMap_map]
  exact List.filterMap_some
theorem gr_eq {n : Nat} {f g : Nat → Nat} (h : ∀ i, i < n → f i = g i) : (fun i => if i < n then some (f i) else none) = (fun i => if i < n then some (g i) else none) := funext fun i => by
  by_cases c : i < n
  · rw [if_pos c, if_pos c, h i c]
  · rw [if_neg c, if_neg c]
theorem wSRc_0 (cy : Nat → ClassId) (h0 : Nat) (u : (Nat → Nat) × (Nat → Nat → Nat → Nat)) : (wSR cy h0 u)[0]? = some ((adC h0 u) 0, (cC cy (adC h0 u) 0) 0 (stC.1 0) (stC.2 0)) := rfl
theorem wSRc_1 (cy : Nat → ClassId) (h0 : Nat) (u : (Nat → Nat) × (Nat → Nat → Nat → Nat)) : (wSR cy h0 u)[186]? = some ((adC h0 u) 1, (cC cy (adC h0 u) 0) 1 (stC.1 1) (stC.2 1)) := rfl
theorem wSRc_2 (cy : Nat → ClassId) (h0 : Nat) (u : (Nat → Nat) × (Nat → Nat → Nat → Nat)) : (wSR cy h0 u)[187]? = some ((adC h0 u) 2, (cC cy (adC h0 u) 0) 2 (stC.1 2) (stC.2 2)) := rfl
theorem wSRc_3 (cy : Nat → ClassId) (h0 : Nat) (u : (Nat → Nat) × (Nat → Nat → Nat → Nat)) : (wSR cy h0 u)[142]? = some ((adC h0 u) 3, (cC cy (adC h0 u) 0) 3 (stC.1 3) (stC.2 3)) := rfl
theorem wSRc_4 (cy : Nat → ClassId) (h0 : Nat) (u : (Nat → Nat) × (Nat → Nat → Nat → Nat)) : (wSR cy h0 u)[143]? = some ((adC h0 u) 4, (cC cy (adC h0 u) 0) 4 (stC.1 4) (stC.2 4)) := by
  have e : (fun i => if i < 40 then some ((u.2 9 1) i) else none) = (fun i => if i < 40 then some (adC h0 u (44 + i)) else none) := gr_eq (fun i hi => by unfold adC; rw [if_neg (by omega), if_pos (by omega), show 44 + i - 44 = i by omega])
  exact congrArg (fun f => some ((adC h0 u) 4, (Sum.inl (cy 5, 40, .inr (.inr (.inr (.inr f)))) : va_E))) e
theorem wSRc_5 (cy : Nat → ClassId) (h0 : Nat) (u : (Nat → Nat) × (Nat → Nat → Nat → Nat)) : (wSR cy h0 u)[144]? = some ((adC h0 u) 5, (cC cy (adC h0 u) 0) 5 (stC.1 5) (stC.2 5)) := rfl
theorem wSRc_6 (cy : Nat → ClassId) (h0 : Nat) (u : (Nat → Nat) × (Nat → Nat → Nat → Nat)) : (wSR cy h0 u)[145]? = some ((adC h0 u) 6, (cC cy (adC h0 u) 0) 6 (stC.1 6) (stC.2 6)) := rfl
theorem wSRc_7 (cy : Nat → ClassId) (h0 : Nat) (u : (Nat → Nat) × (Nat → Nat → Nat → Nat)) : (wSR cy h0 u)[136]? = some ((adC h0 u) 7, (cC cy (adC h0 u) 0) 7 (stC.1 7) (stC.2 7)) := rfl
theorem wSRc_8 (cy : Nat → ClassId) (h0 : Nat) (u : (Nat → Nat) × (Nat → Nat → Nat → Nat)) : (wSR cy h0 u)[137]? = some ((adC h0 u) 8, (cC cy (adC h0 u) 0) 8 (stC.1 8) (stC.2 8)) := rfl
theorem wSRc_9 (cy : Nat → ClassId) (h0 : Nat) (u : (Nat → Nat) × (Nat → Nat → Nat → Nat)) : (wSR cy h0 u)[138]? = some ((adC h0 u) 9, (cC cy (adC h0 u) 0) 9 (stC.1 9) (stC.2 9)) := rfl
theorem wSRc_10 (cy : Nat → ClassId) (h0 : Nat) (u : (Nat → Nat) × (Nat → Nat → Nat → Nat)) : (wSR cy h0 u)[139]? = some ((adC h0 u) 10, (cC cy (adC h0 u) 0) 10 (stC.1 10) (stC.2 10)) := rfl
theorem wSRc_11 (cy : Nat → ClassId) (h0 : Nat) (u : (Nat → Nat) × (Nat → Nat → Nat → Nat)) : (wSR cy h0 u)[140]? = some ((adC h0 u) 11, (cC cy (adC h0 u) 0) 11 (stC.1 11) (stC.2 11)) := rfl
theorem wSRc_12 (cy : Nat → ClassId) (h0 : Nat) (u : (Nat → Nat) × (Nat → Nat → Nat → Nat)) : (wSR cy h0 u)[141]? = some ((adC h0 u) 12, (cC cy (adC h0 u) 0) 12 (stC.1 12) (stC.2 12)) := rfl
theorem wSRc_13 (cy : Nat → ClassId) (h0 : Nat) (u : (Nat → Nat) × (Nat → Nat → Nat → Nat)) : (wSR cy h0 u)[134]? = some ((adC h0 u) 13, (cC cy (adC h0 u) 0) 13 (stC.1 13) (stC.2 13)) := rfl
theorem wSRc_14 (cy : Nat → ClassId) (h0 : Nat) (u : (Nat → Nat) × (Nat → Nat → Nat → Nat)) : (wSR cy h0 u)[130]? = some ((adC h0 u) 14, (cC cy (adC h0 u) 0) 14 (stC.1 14) (stC.2 14)) := rfl
theorem wSRc_15 (cy : Nat → ClassId) (h0 : Nat) (u : (Nat → Nat) × (Nat → Nat → Nat → Nat)) : (wSR cy h0 u)[131]? = some ((adC h0 u) 15, (cC cy (adC h0 u) 0) 15 (stC.1 15) (stC.2 15)) := rfl
theorem wSRc_16 (cy : Nat → ClassId) (h0 : Nat) (u : (Nat → Nat) × (Nat → Nat → Nat → Nat)) : (wSR cy h0 u)[132]? = some ((adC h0 u) 16, (cC cy (adC h0 u) 0) 16 (stC.1 16) (stC.2 16)) := rfl
theorem wSRc_17 (cy : Nat → ClassId) (h0 : Nat) (u : (Nat → Nat) × (Nat → Nat → Nat → Nat)) : (wSR cy h0 u)[133]? = some ((adC h0 u) 17, (cC cy (adC h0 u) 0) 17 (stC.1 17) (stC.2 17)) := rfl
theorem wSRc_18 (cy : Nat → ClassId) (h0 : Nat) (u : (Nat → Nat) × (Nat → Nat → Nat → Nat)) : (wSR cy h0 u)[55]? = some ((adC h0 u) 18, (cC cy (adC h0 u) 0) 18 (stC.1 18) (stC.2 18)) := rfl
theorem wSRc_19 (cy : Nat → ClassId) (h0 : Nat) (u : (Nat → Nat) × (Nat → Nat → Nat → Nat)) : (wSR cy h0 u)[56]? = some ((adC h0 u) 19, (cC cy (adC h0 u) 0) 19 (stC.1 19) (stC.2 19)) := by
  have e : (fun i => if i < 12 then some ((u.2 4 5) i) else none) = (fun i => if i < 12 then some (adC h0 u (84 + i)) else none) := gr_eq (fun i hi => by unfold adC; rw [if_neg (by omega), if_neg (by omega), if_pos (by omega), show 84 + i - 84 = i by omega])
  exact congrArg (fun f => some ((adC h0 u) 19, (Sum.inl (cy 6, 12, .inr (.inr (.inr (.inr f)))) : va_E))) e
theorem wSRc_20 (cy : Nat → ClassId) (h0 : Nat) (u : (Nat → Nat) × (Nat → Nat → Nat → Nat)) : (wSR cy h0 u)[57]? = some ((adC h0 u) 20, (cC cy (adC h0 u) 0) 20 (stC.1 20) (stC.2 20)) := by
  have e : (fun i => if i < 12 then some ((u.2 4 4) i) else none) = (fun i => if i < 12 then some (adC h0 u (96 + i)) else none) := gr_eq (fun i hi => by unfold adC; rw [if_neg (by omega), if_neg (by omega), if_neg (by omega), if_pos (by omega), show 96 + i - 96 = i by omega])
  exact congrArg (fun f => some ((adC h0 u) 20, (Sum.inl (cy 6, 12, .inr (.inr (.inr (.inr f)))) : va_E))) e
theorem wSRc_21 (cy : Nat → ClassId) (h0 : Nat) (u : (Nat → Nat) × (Nat → Nat → Nat → Nat)) : (wSR cy h0 u)[58]? = some ((adC h0 u) 21, (cC cy (adC h0 u) 0) 21 (stC.1 21) (stC.2 21)) := by
  have e : (fun i => if i < 12 then some ((u.2 4 3) i) else none) = (fun i => if i < 12 then some (adC h0 u (108 + i)) else none) := gr_eq (fun i hi => by unfold adC; rw [if_neg (by omega), if_neg (by omega), if_neg (by omega), if_neg (by omega), if_pos (by omega), show 108 + i - 108 = i by omega])
  exact congrArg (fun f => some ((adC h0 u) 21, (Sum.inl (cy 6, 12, .inr (.inr (.inr (.inr f)))) : va_E))) e
theorem wSRc_22 (cy : Nat → ClassId) (h0 : Nat) (u : (Nat → Nat) × (Nat → Nat → Nat → Nat)) : (wSR cy h0 u)[59]? = some ((adC h0 u) 22, (cC cy (adC h0 u) 0) 22 (stC.1 22) (stC.2 22)) := by
  have e : (fun i => if i < 12 then some ((u.2 4 2) i) else none) = (fun i => if i < 12 then some (adC h0 u (120 + i)) else none) := gr_eq (fun i hi => by unfold adC; rw [if_neg (by omega), if_neg (by omega), if_neg (by omega), if_neg (by omega), if_neg (by omega), if_pos (by omega), show 120 + i - 120 = i by omega])
  exact congrArg (fun f => some ((adC h0 u) 22, (Sum.inl (cy 6, 12, .inr (.inr (.inr (.inr f)))) : va_E))) e
theorem wSRc_23 (cy : Nat → ClassId) (h0 : Nat) (u : (Nat → Nat) × (Nat → Nat → Nat → Nat)) : (wSR cy h0 u)[60]? = some ((adC h0 u) 23, (cC cy (adC h0 u) 0) 23 (stC.1 23) (stC.2 23)) := by
  have e : (fun i => if i < 12 then some ((u.2 4 1) i) else none) = (fun i => if i < 12 then some (adC h0 u (132 + i)) else none) := gr_eq (fun i hi => by unfold adC; rw [if_neg (by omega), if_neg (by omega), if_neg (by omega), if_neg (by omega), if_neg (by omega), if_neg (by omega), if_pos (by omega), show 132 + i - 132 = i by omega])
  exact congrArg (fun f => some ((adC h0 u) 23, (Sum.inl (cy 6, 12, .inr (.inr (.inr (.inr f)))) : va_E))) e
theorem wSRc_24 (cy : Nat → ClassId) (h0 : Nat) (u : (Nat → Nat) × (Nat → Nat → Nat → Nat)) : (wSR cy h0 u)[61]? = some ((adC h0 u) 24, (cC cy (adC h0 u) 0) 24 (stC.1 24) (stC.2 24)) := rfl
theorem wSRc_25 (cy : Nat → ClassId) (h0 : Nat) (u : (Nat → Nat) × (Nat → Nat → Nat → Nat)) : (wSR cy h0 u)[62]? = some ((adC h0 u) 25, (cC cy (adC h0 u) 0) 25 (stC.1 25) (stC.2 25)) := rfl
theorem wSRc_26 (cy : Nat → ClassId) (h0 : Nat) (u : (Nat → Nat) × (Nat → Nat → Nat → Nat)) : (wSR cy h0 u)[63]? = some ((adC h0 u) 26, (cC cy (adC h0 u) 0) 26 (stC.1 26) (stC.2 26)) := rfl
theorem wSRc_27 (cy : Nat → ClassId) (h0 : Nat) (u : (Nat → Nat) × (Nat → Nat → Nat → Nat)) : (wSR cy h0 u)[18]? = some ((adC h0 u) 27, (cC cy (adC h0 u) 0) 27 (stC.1 27) (stC.2 27)) := rfl
theorem wSRc_28 (cy : Nat → ClassId) (h0 : Nat) (u : (Nat → Nat) × (Nat → Nat → Nat → Nat)) : (wSR cy h0 u)[19]? = some ((adC h0 u) 28, (cC cy (adC h0 u) 0) 28 (stC.1 28) (stC.2 28)) := rfl
theorem wSRc_29 (cy : Nat → ClassId) (h0 : Nat) (u : (Nat → Nat) × (Nat → Nat → Nat → Nat)) : (wSR cy h0 u)[20]? = some ((adC h0 u) 29, (cC cy (adC h0 u) 0) 29 (stC.1 29) (stC.2 29)) := rfl
theorem wSRc_30 (cy : Nat → ClassId) (h0 : Nat) (u : (Nat → Nat) × (Nat → Nat → Nat → Nat)) : (wSR cy h0 u)[21]? = some ((adC h0 u) 30, (cC cy (adC h0 u) 0) 30 (stC.1 30) (stC.2 30)) := by
  have e : (fun i => if i < 32 then some ((u.2 3 1) i) else none) = (fun i => if i < 32 then some (adC h0 u (144 + i)) else none) := gr_eq (fun i hi => by unfold adC; rw [if_neg (by omega), if_neg (by omega), if_neg (by omega), if_neg (by omega), if_neg (by omega), if_neg (by omega), if_neg (by omega), if_pos (by omega), show 144 + i - 144 = i by omega])
  exact congrArg (fun f => some ((adC h0 u) 30, (Sum.inl (cy 6, 32, .inr (.inr (.inr (.inr f)))) : va_E))) e
theorem wSRc_31 (cy : Nat → ClassId) (h0 : Nat) (u : (Nat → Nat) × (Nat → Nat → Nat → Nat)) : (wSR cy h0 u)[22]? = some ((adC h0 u) 31, (cC cy (adC h0 u) 0) 31 (stC.1 31) (stC.2 31)) := rfl
theorem wSRc_32 (cy : Nat → ClassId) (h0 : Nat) (u : (Nat → Nat) × (Nat → Nat → Nat → Nat)) : (wSR cy h0 u)[15]? = some ((adC h0 u) 32, (cC cy (adC h0 u) 0) 32 (stC.1 32) (stC.2 32)) := rfl
theorem wSRc_33 (cy : Nat → ClassId) (h0 : Nat) (u : (Nat → Nat) × (Nat → Nat → Nat → Nat)) : (wSR cy h0 u)[16]? = some ((adC h0 u) 33, (cC cy (adC h0 u) 0) 33 (stC.1 33) (stC.2 33)) := rfl
theorem wSRc_34 (cy : Nat → ClassId) (h0 : Nat) (u : (Nat → Nat) × (Nat → Nat → Nat → Nat)) : (wSR cy h0 u)[17]? = some ((adC h0 u) 34, (cC cy (adC h0 u) 0) 34 (stC.1 34) (stC.2 34)) := rfl
theorem wSRc_35 (cy : Nat → ClassId) (h0 : Nat) (u : (Nat → Nat) × (Nat → Nat → Nat → Nat)) : (wSR cy h0 u)[13]? = some ((adC h0 u) 35, (cC cy (adC h0 u) 0) 35 (stC.1 35) (stC.2 35)) := rfl
theorem wSRc_36 (cy : Nat → ClassId) (h0 : Nat) (u : (Nat → Nat) × (Nat → Nat → Nat → Nat)) : (wSR cy h0 u)[14]? = some ((adC h0 u) 36, (cC cy (adC h0 u) 0) 36 (stC.1 36) (stC.2 36)) := rfl
theorem wSRc_37 (cy : Nat → ClassId) (h0 : Nat) (u : (Nat → Nat) × (Nat → Nat → Nat → Nat)) : (wSR cy h0 u)[2]? = some ((adC h0 u) 37, (cC cy (adC h0 u) 0) 37 (stC.1 37) (stC.2 37)) := rfl
theorem wSRc_38 (cy : Nat → ClassId) (h0 : Nat) (u : (Nat → Nat) × (Nat → Nat → Nat → Nat)) : (wSR cy h0 u)[5]? = some ((adC h0 u) 38, (cC cy (adC h0 u) 0) 38 (stC.1 38) (stC.2 38)) := rfl
theorem wSRc_39 (cy : Nat → ClassId) (h0 : Nat) (u : (Nat → Nat) × (Nat → Nat → Nat → Nat)) : (wSR cy h0 u)[6]? = some ((adC h0 u) 39, (cC cy (adC h0 u) 0) 39 (stC.1 39) (stC.2 39)) := rfl
theorem wSRc_40 (cy : Nat → ClassId) (h0 : Nat) (u : (Nat → Nat) × (Nat → Nat → Nat → Nat)) : (wSR cy h0 u)[3]? = some ((adC h0 u) 40, (cC cy (adC h0 u) 0) 40 (stC.1 40) (stC.2 40)) := rfl
theorem wSRc_41 (cy : Nat → ClassId) (h0 : Nat) (u : (Nat → Nat) × (Nat → Nat → Nat → Nat)) : (wSR cy h0 u)[4]? = some ((adC h0 u) 41, (cC cy (adC h0 u) 0) 41 (stC.1 41) (stC.2 41)) := by
  have e : (fun i => if i < 6 then some ((u.2 0 1) i) else none) = (fun i => if i < 6 then some (adC h0 u (176 + i)) else none) := gr_eq (fun i hi => by unfold adC; rw [if_neg (by omega), if_neg (by omega), if_neg (by omega), if_neg (by omega), if_neg (by omega), if_neg (by omega), if_neg (by omega), if_neg (by omega), if_pos (by omega), show 176 + i - 176 = i by omega])
  exact congrArg (fun f => some ((adC h0 u) 41, (Sum.inl (cy 7, 6, .inr (.inr (.inr (.inr f)))) : va_E))) e
theorem wSRc_42 (cy : Nat → ClassId) (h0 : Nat) (u : (Nat → Nat) × (Nat → Nat → Nat → Nat)) : (wSR cy h0 u)[1]? = some ((adC h0 u) 42, (cC cy (adC h0 u) 0) 42 (stC.1 42) (stC.2 42)) := rfl
theorem wSRc_43 (cy : Nat → ClassId) (h0 : Nat) (u : (Nat → Nat) × (Nat → Nat → Nat → Nat)) : (wSR cy h0 u)[135]? = some ((adC h0 u) 43, (cC cy (adC h0 u) 0) 43 (stC.1 43) (stC.2 43)) := rfl
theorem wSRc_44 (cy : Nat → ClassId) (h0 : Nat) (u : (Nat → Nat) × (Nat → Nat → Nat → Nat)) : (wSR cy h0 u)[146]? = some ((adC h0 u) 44, (cC cy (adC h0 u) 0) 44 (stC.1 44) (stC.2 44)) := rfl
theorem wSRc_45 (cy : Nat → ClassId) (h0 : Nat) (u : (Nat → Nat) × (Nat → Nat → Nat → Nat)) : (wSR cy h0 u)[147]? = some ((adC h0 u) 45, (cC cy (adC h0 u) 0) 45 (stC.1 45) (stC.2 45)) := rfl
theorem wSRc_46 (cy : Nat → ClassId) (h0 : Nat) (u : (Nat → Nat) × (Nat → Nat → Nat → Nat)) : (wSR cy h0 u)[148]? = some ((adC h0 u) 46, (cC cy (adC h0 u) 0) 46 (stC.1 46) (stC.2 46)) := rfl
theorem wSRc_47 (cy : Nat → ClassId) (h0 : Nat) (u : (Nat → Nat) × (Nat → Nat → Nat → Nat)) : (wSR cy h0 u)[149]? = some ((adC h0 u) 47, (cC cy (adC h0 u) 0) 47 (stC.1 47) (stC.2 47)) := rfl
theorem wSRc_48 (cy : Nat → ClassId) (h0 : Nat) (u : (Nat → Nat) × (Nat → Nat → Nat → Nat)) : (wSR cy h0 u)[150]? = some ((adC h0 u) 48, (cC cy (adC h0 u) 0) 48 (stC.1 48) (stC.2 48)) := rfl
theorem wSRc_49 (cy : Nat → ClassId) (h0 : Nat) (u : (Nat → Nat) × (Nat → Nat → Nat → Nat)) : (wSR cy h0 u)[151]? = some ((adC h0 u) 49, (cC cy (adC h0 u) 0) 49 (stC.1 49) (stC.2 49)) := rfl
theorem wSRc_50 (cy : Nat → ClassId) (h0 : Nat) (u : (Nat → Nat) × (Nat → Nat → Nat → Nat)) : (wSR cy h0 u)[152]? = some ((adC h0 u) 50, (cC cy (adC h0 u) 0) 50 (stC.1 50) (stC.2 50)) := rfl
theorem wSRc_51 (cy : Nat → ClassId) (h0 : Nat) (u : (Nat → Nat) × (Nat → Nat → Nat → Nat)) : (wSR cy h0 u)[153]? = some ((adC h0 u) 51, (cC cy (adC h0 u) 0) 51 (stC.1 51) (stC.2 51)) := rfl
theorem wSRc_52 (cy : Nat → ClassId) (h0 : Nat) (u : (Nat → Nat) × (Nat → Nat → Nat → Nat)) : (wSR cy h0 u)[154]? = some ((adC h0 u) 52, (cC cy (adC h0 u) 0) 52 (stC.1 52) (stC.2 52)) := rfl
theorem wSRc_53 (cy : Nat → ClassId) (h0 : Nat) (u : (Nat → Nat) × (Nat → Nat → Nat → Nat)) : (wSR cy h0 u)[155]? = some ((adC h0 u) 53, (cC cy (adC h0 u) 0) 53 (stC.1 53) (stC.2 53)) := rfl
theorem wSRc_54 (cy : Nat → ClassId) (h0 : Nat) (u : (Nat → Nat) × (Nat → Nat → Nat → Nat)) : (wSR cy h0 u)[156]? = some ((adC h0 u) 54, (cC cy (adC h0 u) 0) 54 (stC.1 54) (stC.2 54)) := rfl
theorem wSRc_55 (cy : Nat → ClassId) (h0 : Nat) (u : (Nat → Nat) × (Nat → Nat → Nat → Nat)) : (wSR cy h0 u)[157]? = some ((adC h0 u) 55, (cC cy (adC h0 u) 0) 55 (stC.1 55) (stC.2 55)) := rfl
theorem wSRc_56 (cy : Nat → ClassId) (h0 : Nat) (u : (Nat → Nat) × (Nat → Nat → Nat → Nat)) : (wSR cy h0 u)[158]? = some ((adC h0 u) 56, (cC cy (adC h0 u) 0) 56 (stC.1 56) (stC.2 56)) := rfl
theorem wSRc_57 (cy : Nat → ClassId) (h0 : Nat) (u : (Nat → Nat) × (Nat → Nat → Nat → Nat)) : (wSR cy h0 u)[159]? = some ((adC h0 u) 57, (cC cy (adC h0 u) 0) 57 (stC.1 57) (stC.2 57)) := rfl
theorem wSRc_58 (cy : Nat → ClassId) (h0 : Nat) (u : (Nat → Nat) × (Nat → Nat → Nat → Nat)) : (wSR cy h0 u)[160]? = some ((adC h0 u) 58, (cC cy (adC h0 u) 0) 58 (stC.1 58) (stC.2 58)) := rfl
theorem wSRc_59 (cy : Nat → ClassId) (h0 : Nat) (u : (Nat → Nat) × (Nat → Nat → Nat → Nat)) : (wSR cy h0 u)[161]? = some ((adC h0 u) 59, (cC cy (adC h0 u) 0) 59 (stC.1 59) (stC.2 59)) := rfl
theorem wSRc_60 (cy : Nat → ClassId) (h0 : Nat) (u : (Nat → Nat) × (Nat → Nat → Nat → Nat)) : (wSR cy h0 u)[162]? = some ((adC h0 u) 60, (cC cy (adC h0 u) 0) 60 (stC.1 60) (stC.2 60)) := rfl
theorem wSRc_61 (cy : Nat → ClassId) (h0 : Nat) (u : (Nat → Nat) × (Nat → Nat → Nat → Nat)) : (wSR cy h0 u)[163]? = some ((adC h0 u) 61, (cC cy (adC h0 u) 0) 61 (stC.1 61) (stC.2 61)) := rfl
theorem wSRc_62 (cy : Nat → ClassId) (h0 : Nat) (u : (Nat → Nat) × (Nat → Nat → Nat → Nat)) : (wSR cy h0 u)[164]? = some ((adC h0 u) 62, (cC cy (adC h0 u) 0) 62 (stC.1 62) (stC.2 62)) := rfl
theorem wSRc_63 (cy : Nat → ClassId) (h0 : Nat) (u : (Nat → Nat) × (Nat → Nat → Nat → Nat)) : (wSR cy h0 u)[165]? = some ((adC h0 u) 63, (cC cy (adC h0 u) 0) 63 (stC.1 63) (stC.2 63)) := rfl
theorem wSRc_64 (cy : Nat → ClassId) (h0 : Nat) (u : (Nat → Nat) × (Nat → Nat → Nat → Nat)) : (wSR cy h0 u)[166]? = some ((adC h0 u) 64, (cC cy (adC h0 u) 0) 64 (stC.1 64) (stC.2 64)) := rfl
theorem wSRc_65 (cy : Nat → ClassId) (h0 : Nat) (u : (Nat → Nat) × (Nat → Nat → Nat → Nat)) : (wSR cy h0 u)[167]? = some ((adC h0 u) 65, (cC cy (adC h0 u) 0) 65 (stC.1 65) (stC.2 65)) := rfl
theorem wSRc_66 (cy : Nat → ClassId) (h0 : Nat) (u : (Nat → Nat) × (Nat → Nat → Nat → Nat)) : (wSR cy h0 u)[168]? = some ((adC h0 u) 66, (cC cy (adC h0 u) 0) 66 (stC.1 66) (stC.2 66)) := rfl
theorem wSRc_67 (cy : Nat → ClassId) (h0 : Nat) (u : (Nat → Nat) × (Nat → Nat → Nat → Nat)) : (wSR cy h0 u)[169]? = some ((adC h0 u) 67, (cC cy (adC h0 u) 0) 67 (stC.1 67) (stC.2 67)) := rfl
theorem wSRc_68 (cy : Nat → ClassId) (h0 : Nat) (u : (Nat → Nat) × (Nat → Nat → Nat → Nat)) : (wSR cy h0 u)[170]? = some ((adC h0 u) 68, (cC cy (adC h0 u) 0) 68 (stC.1 68) (stC.2 68)) := rfl
theorem wSRc_69 (cy : Nat → ClassId) (h0 : Nat) (u : (Nat → Nat) × (Nat → Nat → Nat → Nat)) : (wSR cy h0 u)[171]? = some ((adC h0 u) 69, (cC cy (adC h0 u) 0) 69 (stC.1 69) (stC.2 69)) := rfl
theorem wSRc_70 (cy : Nat → ClassId) (h0 : Nat) (u : (Nat → Nat) × (Nat → Nat → Nat → Nat)) : (wSR cy h0 u)[172]? = some ((adC h0 u) 70, (cC cy (adC h0 u) 0) 70 (stC.1 70) (stC.2 70)) := rfl
theorem wSRc_71 (cy : Nat → ClassId) (h0 : Nat) (u : (Nat → Nat) × (Nat → Nat → Nat → Nat)) : (wSR cy h0 u)[173]? = some ((adC h0 u) 71, (cC cy (adC h0 u) 0) 71 (stC.1 71) (stC.2 71)) := rfl
theorem wSRc_72 (cy : Nat → ClassId) (h0 : Nat) (u : (Nat → Nat) × (Nat → Nat → Nat → Nat)) : (wSR cy h0 u)[174]? = some ((adC h0 u) 72, (cC cy (adC h0 u) 0) 72 (stC.1 72) (stC.2 72)) := rfl
theorem wSRc_73 (cy : Nat → ClassId) (h0 : Nat) (u : (Nat → Nat) × (Nat → Nat → Nat → Nat)) : (wSR cy h0 u)[175]? = some ((adC h0 u) 73, (cC cy (adC h0 u) 0) 73 (stC.1 73) (stC.2 73)) := rfl
theorem wSRc_74 (cy : Nat → ClassId) (h0 : Nat) (u : (Nat → Nat) × (Nat → Nat → Nat → Nat)) : (wSR cy h0 u)[176]? = some ((adC h0 u) 74, (cC cy (adC h0 u) 0) 74 (stC.1 74) (stC.2 74)) := rfl
theorem wSRc_75 (cy : Nat → ClassId) (h0 : Nat) (u : (Nat → Nat) × (Nat → Nat → Nat → Nat)) : (wSR cy h0 u)[177]? = some ((adC h0 u) 75, (cC cy (adC h0 u) 0) 75 (stC.1 75) (stC.2 75)) := rfl
theorem wSRc_76 (cy : Nat → ClassId) (h0 : Nat) (u : (Nat → Nat) × (Nat → Nat → Nat → Nat)) : (wSR cy h0 u)[178]? = some ((adC h0 u) 76, (cC cy (adC h0 u) 0) 76 (stC.1 76) (stC.2 76)) := rfl
theorem wSRc_77 (cy : Nat → ClassId) (h0 : Nat) (u : (Nat → Nat) × (Nat → Nat → Nat → Nat)) : (wSR cy h0 u)[179]? = some ((adC h0 u) 77, (cC cy (adC h0 u) 0) 77 (stC.1 77) (stC.2 77)) := rfl
theorem wSRc_78 (cy : Nat → ClassId) (h0 : Nat) (u : (Nat → Nat) × (Nat → Nat → Nat → Nat)) : (wSR cy h0 u)[180]? = some ((adC h0 u) 78, (cC cy (adC h0 u) 0) 78 (stC.1 78) (stC.2 78)) := rfl
theorem wSRc_79 (cy : Nat → ClassId) (h0 : Nat) (u : (Nat → Nat) × (Nat → Nat → Nat → Nat)) : (wSR cy h0 u)[181]? = some ((adC h0 u) 79, (cC cy (adC h0 u) 0) 79 (stC.1 79) (stC.2 79)) := rfl
theorem wSRc_80 (cy : Nat → ClassId) (h0 : Nat) (u : (Nat → Nat) × (Nat → Nat → Nat → Nat)) : (wSR cy h0 u)[182]? = some ((adC h0 u) 80, (cC cy (adC h0 u) 0) 80 (stC.1 80) (stC.2 80)) := rfl
theorem wSRc_81 (cy : Nat → ClassId) (h0 : Nat) (u : (Nat → Nat) × (Nat → Nat → Nat → Nat)) : (wSR cy h0 u)[183]? = some ((adC h0 u) 81, (cC cy (adC h0 u) 0) 81 (stC.1 81) (stC.2 81)) := rfl
theorem wSRc_82 (cy : Nat → ClassId) (h0 : Nat) (u : (Nat → Nat) × (Nat → Nat → Nat → Nat)) : (wSR cy h0 u)[184]? = some ((adC h0 u) 82, (cC cy (adC h0 u) 0) 82 (stC.1 82) (stC.2 82)) := rfl
theorem wSRc_83 (cy : Nat → ClassId) (h0 : Nat) (u : (Nat → Nat) × (Nat → Nat → Nat → Nat)) : (wSR cy h0 u)[185]? = some ((adC h0 u) 83, (cC cy (adC h0 u) 0) 83 (stC.1 83) (stC.2 83)) := rfl
theorem wSRc_84 (cy : Nat → ClassId) (h0 : Nat) (u : (Nat → Nat) × (Nat → Nat → Nat → Nat)) : (wSR cy h0 u)[112]? = some ((adC h0 u) 84, (cC cy (adC h0 u) 0) 84 (stC.1 84) (stC.2 84)) := rfl
theorem wSRc_85 (cy : Nat → ClassId) (h0 : Nat) (u : (Nat → Nat) × (Nat → Nat → Nat → Nat)) : (wSR cy h0 u)[113]? = some ((adC h0 u) 85, (cC cy (adC h0 u) 0) 85 (stC.1 85) (stC.2 85)) := rfl
theorem wSRc_86 (cy : Nat → ClassId) (h0 : Nat) (u : (Nat → Nat) × (Nat → Nat → Nat → Nat)) : (wSR cy h0 u)[114]? = some ((adC h0 u) 86, (cC cy (adC h0 u) 0) 86 (stC.1 86) (stC.2 86)) := rfl
theorem wSRc_87 (cy : Nat → ClassId) (h0 : Nat) (u : (Nat → Nat) × (Nat → Nat → Nat → Nat)) : (wSR cy h0 u)[115]? = some ((adC h0 u) 87, (cC cy (adC h0 u) 0) 87 (stC.1 87) (stC.2 87)) := rfl
theorem wSRc_88 (cy : Nat → ClassId) (h0 : Nat) (u : (Nat → Nat) × (Nat → Nat → Nat → Nat)) : (wSR cy h0 u)[116]? = some ((adC h0 u) 88, (cC cy (adC h0 u) 0) 88 (stC.1 88) (stC.2 88)) := rfl
theorem wSRc_89 (cy : Nat → ClassId) (h0 : Nat) (u : (Nat → Nat) × (Nat → Nat → Nat → Nat)) : (wSR cy h0 u)[117]? = some ((adC h0 u) 89, (cC cy (adC h0 u) 0) 89 (stC.1 89) (stC.2 89)) := rfl
theorem wSRc_90 (cy : Nat → ClassId) (h0 : Nat) (u : (Nat → Nat) × (Nat → Nat → Nat → Nat)) : (wSR cy h0 u)[118]? = some ((adC h0 u) 90, (cC cy (adC h0 u) 0) 90 (stC.1 90) (stC.2 90)) := rfl
theorem wSRc_91 (cy : Nat → ClassId) (h0 : Nat) (u : (Nat → Nat) × (Nat → Nat → Nat → Nat)) : (wSR cy h0 u)[119]? = some ((adC h0 u) 91, (cC cy (adC h0 u) 0) 91 (stC.1 91) (stC.2 91)) := rfl
theorem wSRc_92 (cy : Nat → ClassId) (h0 : Nat) (u : (Nat → Nat) × (Nat → Nat → Nat → Nat)) : (wSR cy h0 u)[120]? = some ((adC h0 u) 92, (cC cy (adC h0 u) 0) 92 (stC.1 92) (stC.2 92)) := rfl
theorem wSRc_93 (cy : Nat → ClassId) (h0 : Nat) (u : (Nat → Nat) × (Nat → Nat → Nat → Nat)) : (wSR cy h0 u)[121]? = some ((adC h0 u) 93, (cC cy (adC h0 u) 0) 93 (stC.1 93) (stC.2 93)) := rfl
theorem wSRc_94 (cy : Nat → ClassId) (h0 : Nat) (u : (Nat → Nat) × (Nat → Nat → Nat → Nat)) : (wSR cy h0 u)[122]? = some ((adC h0 u) 94, (cC cy (adC h0 u) 0) 94 (stC.1 94) (stC.2 94)) := rfl
theorem wSRc_95 (cy : Nat → ClassId) (h0 : Nat) (u : (Nat → Nat) × (Nat → Nat → Nat → Nat)) : (wSR cy h0 u)[123]? = some ((adC h0 u) 95, (cC cy (adC h0 u) 0) 95 (stC.1 95) (stC.2 95)) := rfl
theorem wSRc_96 (cy : Nat → ClassId) (h0 : Nat) (u : (Nat → Nat) × (Nat → Nat → Nat → Nat)) : (wSR cy h0 u)[100]? = some ((adC h0 u) 96, (cC cy (adC h0 u) 0) 96 (stC.1 96) (stC.2 96)) := rfl
theorem wSRc_97 (cy : Nat → ClassId) (h0 : Nat) (u : (Nat → Nat) × (Nat → Nat → Nat → Nat)) : (wSR cy h0 u)[101]? = some ((adC h0 u) 97, (cC cy (adC h0 u) 0) 97 (stC.1 97) (stC.2 97)) := rfl
theorem wSRc_98 (cy : Nat → ClassId) (h0 : Nat) (u : (Nat → Nat) × (Nat → Nat → Nat → Nat)) : (wSR cy h0 u)[102]? = some ((adC h0 u) 98, (cC cy (adC h0 u) 0) 98 (stC.1 98) (stC.2 98)) := rfl
theorem wSRc_99 (cy : Nat → ClassId) (h0 : Nat) (u : (Nat → Nat) × (Nat → Nat → Nat → Nat)) : (wSR cy h0 u)[103]? = some ((adC h0 u) 99, (cC cy (adC h0 u) 0) 99 (stC.1 99) (stC.2 99)) := rfl
theorem wSRc_100 (cy : Nat → ClassId) (h0 : Nat) (u : (Nat → Nat) × (Nat → Nat → Nat → Nat)) : (wSR cy h0 u)[104]? = some ((adC h0 u) 100, (cC cy (adC h0 u) 0) 100 (stC.1 100) (stC.2 100)) := rfl
theorem wSRc_101 (cy : Nat → ClassId) (h0 : Nat) (u : (Nat → Nat) × (Nat → Nat → Nat → Nat)) : (wSR cy h0 u)[105]? = some ((adC h0 u) 101, (cC cy (adC h0 u) 0) 101 (stC.1 101) (stC.2 101)) := rfl
theorem wSRc_102 (cy : Nat → ClassId) (h0 : Nat) (u : (Nat → Nat) × (Nat → Nat → Nat → Nat)) : (wSR cy h0 u)[106]? = some ((adC h0 u) 102, (cC cy (adC h0 u) 0) 102 (stC.1 102) (stC.2 102)) := rfl
theorem wSRc_103 (cy : Nat → ClassId) (h0 : Nat) (u : (Nat → Nat) × (Nat → Nat → Nat → Nat)) : (wSR cy h0 u)[107]? = some ((adC h0 u) 103, (cC cy (adC h0 u) 0) 103 (stC.1 103) (stC.2 103)) := rfl
theorem wSRc_104 (cy : Nat → ClassId) (h0 : Nat) (u : (Nat → Nat) × (Nat → Nat → Nat → Nat)) : (wSR cy h0 u)[108]? = some ((adC h0 u) 104, (cC cy (adC h0 u) 0) 104 (stC.1 104) (stC.2 104)) := rfl
theorem wSRc_105 (cy : Nat → ClassId) (h0 : Nat) (u : (Nat → Nat) × (Nat → Nat → Nat → Nat)) : (wSR cy h0 u)[109]? = some ((adC h0 u) 105, (cC cy (adC h0 u) 0) 105 (stC.1 105) (stC.2 105)) := rfl
theorem wSRc_106 (cy : Nat → ClassId) (h0 : Nat) (u : (Nat → Nat) × (Nat → Nat → Nat → Nat)) : (wSR cy h0 u)[110]? = some ((adC h0 u) 106, (cC cy (adC h0 u) 0) 106 (stC.1 106) (stC.2 106)) := rfl
theorem wSRc_107 (cy : Nat → ClassId) (h0 : Nat) (u : (Nat → Nat) × (Nat → Nat → Nat → Nat)) : (wSR cy h0 u)[111]? = some ((adC h0 u) 107, (cC cy (adC h0 u) 0) 107 (stC.1 107) (stC.2 107)) := rfl
theorem wSRc_108 (cy : Nat → ClassId) (h0 : Nat) (u : (Nat → Nat) × (Nat → Nat → Nat → Nat)) : (wSR cy h0 u)[88]? = some ((adC h0 u) 108, (cC cy (adC h0 u) 0) 108 (stC.1 108) (stC.2 108)) := rfl
theorem wSRc_109 (cy : Nat → ClassId) (h0 : Nat) (u : (Nat → Nat) × (Nat → Nat → Nat → Nat)) : (wSR cy h0 u)[89]? = some ((adC h0 u) 109, (cC cy (adC h0 u) 0) 109 (stC.1 109) (stC.2 109)) := rfl
theorem wSRc_110 (cy : Nat → ClassId) (h0 : Nat) (u : (Nat → Nat) × (Nat → Nat → Nat → Nat)) : (wSR cy h0 u)[90]? = some ((adC h0 u) 110, (cC cy (adC h0 u) 0) 110 (stC.1 110) (stC.2 110)) := rfl
theorem wSRc_111 (cy : Nat → ClassId) (h0 : Nat) (u : (Nat → Nat) × (Nat → Nat → Nat → Nat)) : (wSR cy h0 u)[91]? = some ((adC h0 u) 111, (cC cy (adC h0 u) 0) 111 (stC.1 111) (stC.2 111)) := rfl
theorem wSRc_112 (cy : Nat → ClassId) (h0 : Nat) (u : (Nat → Nat) × (Nat → Nat → Nat → Nat)) : (wSR cy h0 u)[92]? = some ((adC h0 u) 112, (cC cy (adC h0 u) 0) 112 (stC.1 112) (stC.2 112)) := rfl
theorem wSRc_113 (cy : Nat → ClassId) (h0 : Nat) (u : (Nat → Nat) × (Nat → Nat → Nat → Nat)) : (wSR cy h0 u)[93]? = some ((adC h0 u) 113, (cC cy (adC h0 u) 0) 113 (stC.1 113) (stC.2 113)) := rfl
theorem wSRc_114 (cy : Nat → ClassId) (h0 : Nat) (u : (Nat → Nat) × (Nat → Nat → Nat → Nat)) : (wSR cy h0 u)[94]? = some ((adC h0 u) 114, (cC cy (adC h0 u) 0) 114 (stC.1 114) (stC.2 114)) := rfl
theorem wSRc_115 (cy : Nat → ClassId) (h0 : Nat) (u : (Nat → Nat) × (Nat → Nat → Nat → Nat)) : (wSR cy h0 u)[95]? = some ((adC h0 u) 115, (cC cy (adC h0 u) 0) 115 (stC.1 115) (stC.2 115)) := rfl
theorem wSRc_116 (cy : Nat → ClassId) (h0 : Nat) (u : (Nat → Nat) × (Nat → Nat → Nat → Nat)) : (wSR cy h0 u)[96]? = some ((adC h0 u) 116, (cC cy (adC h0 u) 0) 116 (stC.1 116) (stC.2 116)) := rfl
theorem wSRc_117 (cy : Nat → ClassId) (h0 : Nat) (u : (Nat → Nat) × (Nat → Nat → Nat → Nat)) : (wSR cy h0 u)[97]? = some ((adC h0 u) 117, (cC cy (adC h0 u) 0) 117 (stC.1 117) (stC.2 117)) := rfl
theorem wSRc_118 (cy : Nat → ClassId) (h0 : Nat) (u : (Nat → Nat) × (Nat → Nat → Nat → Nat)) : (wSR cy h0 u)[98]? = some ((adC h0 u) 118, (cC cy (adC h0 u) 0) 118 (stC.1 118) (stC.2 118)) := rfl
theorem wSRc_119 (cy : Nat → ClassId) (h0 : Nat) (u : (Nat → Nat) × (Nat → Nat → Nat → Nat)) : (wSR cy h0 u)[99]? = some ((adC h0 u) 119, (cC cy (adC h0 u) 0) 119 (stC.1 119) (stC.2 119)) := rfl
theorem wSRc_120 (cy : Nat → ClassId) (h0 : Nat) (u : (Nat → Nat) × (Nat → Nat → Nat → Nat)) : (wSR cy h0 u)[76]? = some ((adC h0 u) 120, (cC cy (adC h0 u) 0) 120 (stC.1 120) (stC.2 120)) := rfl
theorem wSRc_121 (cy : Nat → ClassId) (h0 : Nat) (u : (Nat → Nat) × (Nat → Nat → Nat → Nat)) : (wSR cy h0 u)[77]? = some ((adC h0 u) 121, (cC cy (adC h0 u) 0) 121 (stC.1 121) (stC.2 121)) := rfl
theorem wSRc_122 (cy : Nat → ClassId) (h0 : Nat) (u : (Nat → Nat) × (Nat → Nat → Nat → Nat)) : (wSR cy h0 u)[78]? = some ((adC h0 u) 122, (cC cy (adC h0 u) 0) 122 (stC.1 122) (stC.2 122)) := rfl
theorem wSRc_123 (cy : Nat → ClassId) (h0 : Nat) (u : (Nat → Nat) × (Nat → Nat → Nat → Nat)) : (wSR cy h0 u)[79]? = some ((adC h0 u) 123, (cC cy (adC h0 u) 0) 123 (stC.1 123) (stC.2 123)) := rfl
theorem wSRc_124 (cy : Nat → ClassId) (h0 : Nat) (u : (Nat → Nat) × (Nat → Nat → Nat → Nat)) : (wSR cy h0 u)[80]? = some ((adC h0 u) 124, (cC cy (adC h0 u) 0) 124 (stC.1 124) (stC.2 124)) := rfl
theorem wSRc_125 (cy : Nat → ClassId) (h0 : Nat) (u : (Nat → Nat) × (Nat → Nat → Nat → Nat)) : (wSR cy h0 u)[81]? = some ((adC h0 u) 125, (cC cy (adC h0 u) 0) 125 (stC.1 125) (stC.2 125)) := rfl
theorem wSRc_126 (cy : Nat → ClassId) (h0 : Nat) (u : (Nat → Nat) × (Nat → Nat → Nat → Nat)) : (wSR cy h0 u)[82]? = some ((adC h0 u) 126, (cC cy (adC h0 u) 0) 126 (stC.1 126) (stC.2 126)) := rfl
theorem wSRc_127 (cy : Nat → ClassId) (h0 : Nat) (u : (Nat → Nat) × (Nat → Nat → Nat → Nat)) : (wSR cy h0 u)[83]? = some ((adC h0 u) 127, (cC cy (adC h0 u) 0) 127 (stC.1 127) (stC.2 127)) := rfl
theorem wSRc_128 (cy : Nat → ClassId) (h0 : Nat) (u : (Nat → Nat) × (Nat → Nat → Nat → Nat)) : (wSR cy h0 u)[84]? = some ((adC h0 u) 128, (cC cy (adC h0 u) 0) 128 (stC.1 128) (stC.2 128)) := rfl
theorem wSRc_129 (cy : Nat → ClassId) (h0 : Nat) (u : (Nat → Nat) × (Nat → Nat → Nat → Nat)) : (wSR cy h0 u)[85]? = some ((adC h0 u) 129, (cC cy (adC h0 u) 0) 129 (stC.1 129) (stC.2 129)) := rfl
theorem wSRc_130 (cy : Nat → ClassId) (h0 : Nat) (u : (Nat → Nat) × (Nat → Nat → Nat → Nat)) : (wSR cy h0 u)[86]? = some ((adC h0 u) 130, (cC cy (adC h0 u) 0) 130 (stC.1 130) (stC.2 130)) := rfl
theorem wSRc_131 (cy : Nat → ClassId) (h0 : Nat) (u : (Nat → Nat) × (Nat → Nat → Nat → Nat)) : (wSR cy h0 u)[87]? = some ((adC h0 u) 131, (cC cy (adC h0 u) 0) 131 (stC.1 131) (stC.2 131)) := rfl
theorem wSRc_132 (cy : Nat → ClassId) (h0 : Nat) (u : (Nat → Nat) × (Nat → Nat → Nat → Nat)) : (wSR cy h0 u)[64]? = some ((adC h0 u) 132, (cC cy (adC h0 u) 0) 132 (stC.1 132) (stC.2 132)) := rfl
theorem wSRc_133 (cy : Nat → ClassId) (h0 : Nat) (u : (Nat → Nat) × (Nat → Nat → Nat → Nat)) : (wSR cy h0 u)[65]? = some ((adC h0 u) 133, (cC cy (adC h0 u) 0) 133 (stC.1 133) (stC.2 133)) := rfl
theorem wSRc_134 (cy : Nat → ClassId) (h0 : Nat) (u : (Nat → Nat) × (Nat → Nat → Nat → Nat)) : (wSR cy h0 u)[66]? = some ((adC h0 u) 134, (cC cy (adC h0 u) 0) 134 (stC.1 134) (stC.2 134)) := rfl
theorem wSRc_135 (cy : Nat → ClassId) (h0 : Nat) (u : (Nat → Nat) × (Nat → Nat → Nat → Nat)) : (wSR cy h0 u)[67]? = some ((adC h0 u) 135, (cC cy (adC h0 u) 0) 135 (stC.1 135) (stC.2 135)) := rfl
theorem wSRc_136 (cy : Nat → ClassId) (h0 : Nat) (u : (Nat → Nat) × (Nat → Nat → Nat → Nat)) : (wSR cy h0 u)[68]? = some ((adC h0 u) 136, (cC cy (adC h0 u) 0) 136 (stC.1 136) (stC.2 136)) := rfl
theorem wSRc_137 (cy : Nat → ClassId) (h0 : Nat) (u : (Nat → Nat) × (Nat → Nat → Nat → Nat)) : (wSR cy h0 u)[69]? = some ((adC h0 u) 137, (cC cy (adC h0 u) 0) 137 (stC.1 137) (stC.2 137)) := rfl
theorem wSRc_138 (cy : Nat → ClassId) (h0 : Nat) (u : (Nat → Nat) × (Nat → Nat → Nat → Nat)) : (wSR cy h0 u)[70]? = some ((adC h0 u) 138, (cC cy (adC h0 u) 0) 138 (stC.1 138) (stC.2 138)) := rfl
theorem wSRc_139 (cy : Nat → ClassId) (h0 : Nat) (u : (Nat → Nat) × (Nat → Nat → Nat → Nat)) : (wSR cy h0 u)[71]? = some ((adC h0 u) 139, (cC cy (adC h0 u) 0) 139 (stC.1 139) (stC.2 139)) := rfl
theorem wSRc_140 (cy : Nat → ClassId) (h0 : Nat) (u : (Nat → Nat) × (Nat → Nat → Nat → Nat)) : (wSR cy h0 u)[72]? = some ((adC h0 u) 140, (cC cy (adC h0 u) 0) 140 (stC.1 140) (stC.2 140)) := rfl
theorem wSRc_141 (cy : Nat → ClassId) (h0 : Nat) (u : (Nat → Nat) × (Nat → Nat → Nat → Nat)) : (wSR cy h0 u)[73]? = some ((adC h0 u) 141, (cC cy (adC h0 u) 0) 141 (stC.1 141) (stC.2 141)) := rfl
theorem wSRc_142 (cy : Nat → ClassId) (h0 : Nat) (u : (Nat → Nat) × (Nat → Nat → Nat → Nat)) : (wSR cy h0 u)[74]? = some ((adC h0 u) 142, (cC cy (adC h0 u) 0) 142 (stC.1 142) (stC.2 142)) := rfl
theorem wSRc_143 (cy : Nat → ClassId) (h0 : Nat) (u : (Nat → Nat) × (Nat → Nat → Nat → Nat)) : (wSR cy h0 u)[75]? = some ((adC h0 u) 143, (cC cy (adC h0 u) 0) 143 (stC.1 143) (stC.2 143)) := rfl
theorem wSRc_144 (cy : Nat → ClassId) (h0 : Nat) (u : (Nat → Nat) × (Nat → Nat → Nat → Nat)) : (wSR cy h0 u)[23]? = some ((adC h0 u) 144, (cC cy (adC h0 u) 0) 144 (stC.1 144) (stC.2 144)) := rfl
theorem wSRc_145 (cy : Nat → ClassId) (h0 : Nat) (u : (Nat → Nat) × (Nat → Nat → Nat → Nat)) : (wSR cy h0 u)[24]? = some ((adC h0 u) 145, (cC cy (adC h0 u) 0) 145 (stC.1 145) (stC.2 145)) := rfl
theorem wSRc_146 (cy : Nat → ClassId) (h0 : Nat) (u : (Nat → Nat) × (Nat → Nat → Nat → Nat)) : (wSR cy h0 u)[25]? = some ((adC h0 u) 146, (cC cy (adC h0 u) 0) 146 (stC.1 146) (stC.2 146)) := rfl
theorem wSRc_147 (cy : Nat → ClassId) (h0 : Nat) (u : (Nat → Nat) × (Nat → Nat → Nat → Nat)) : (wSR cy h0 u)[26]? = some ((adC h0 u) 147, (cC cy (adC h0 u) 0) 147 (stC.1 147) (stC.2 147)) := rfl
theorem wSRc_148 (cy : Nat → ClassId) (h0 : Nat) (u : (Nat → Nat) × (Nat → Nat → Nat → Nat)) : (wSR cy h0 u)[27]? = some ((adC h0 u) 148, (cC cy (adC h0 u) 0) 148 (stC.1 148) (stC.2 148)) := rfl
theorem wSRc_149 (cy : Nat → ClassId) (h0 : Nat) (u : (Nat → Nat) × (Nat → Nat → Nat → Nat)) : (wSR cy h0 u)[28]? = some ((adC h0 u) 149, (cC cy (adC h0 u) 0) 149 (stC.1 149) (stC.2 149)) := rfl
theorem wSRc_150 (cy : Nat → ClassId) (h0 : Nat) (u : (Nat → Nat) × (Nat → Nat → Nat → Nat)) : (wSR cy h0 u)[29]? = some ((adC h0 u) 150, (cC cy (adC h0 u) 0) 150 (stC.1 150) (stC.2 150)) := rfl
theorem wSRc_151 (cy : Nat → ClassId) (h0 : Nat) (u : (Nat → Nat) × (Nat → Nat → Nat → Nat)) : (wSR cy h0 u)[30]? = some ((adC h0 u) 151, (cC cy (adC h0 u) 0) 151 (stC.1 151) (stC.2 151)) := rfl
theorem wSRc_152 (cy : Nat → ClassId) (h0 : Nat) (u : (Nat → Nat) × (Nat → Nat → Nat → Nat)) : (wSR cy h0 u)[31]? = some ((adC h0 u) 152, (cC cy (adC h0 u) 0) 152 (stC.1 152) (stC.2 152)) := rfl
theorem wSRc_153 (cy : Nat → ClassId) (h0 : Nat) (u : (Nat → Nat) × (Nat → Nat → Nat → Nat)) : (wSR cy h0 u)[32]? = some ((adC h0 u) 153, (cC cy (adC h0 u) 0) 153 (stC.1 153) (stC.2 153)) := rfl
theorem wSRc_154 (cy : Nat → ClassId) (h0 : Nat) (u : (Nat → Nat) × (Nat → Nat → Nat → Nat)) : (wSR cy h0 u)[33]? = some ((adC h0 u) 154, (cC cy (adC h0 u) 0) 154 (stC.1 154) (stC.2 154)) := rfl
theorem wSRc_155 (cy : Nat → ClassId) (h0 : Nat) (u : (Nat → Nat) × (Nat → Nat → Nat → Nat)) : (wSR cy h0 u)[34]? = some ((adC h0 u) 155, (cC cy (adC h0 u) 0) 155 (stC.1 155) (stC.2 155)) := rfl
theorem wSRc_156 (cy : Nat → ClassId) (h0 : Nat) (u : (Nat → Nat) × (Nat → Nat → Nat → Nat)) : (wSR cy h0 u)[35]? = some ((adC h0 u) 156, (cC cy (adC h0 u) 0) 156 (stC.1 156) (stC.2 156)) := rfl
theorem wSRc_157 (cy : Nat → ClassId) (h0 : Nat) (u : (Nat → Nat) × (Nat → Nat → Nat → Nat)) : (wSR cy h0 u)[36]? = some ((adC h0 u) 157, (cC cy (adC h0 u) 0) 157 (stC.1 157) (stC.2 157)) := rfl
theorem wSRc_158 (cy : Nat → ClassId) (h0 : Nat) (u : (Nat → Nat) × (Nat → Nat → Nat → Nat)) : (wSR cy h0 u)[37]? = some ((adC h0 u) 158, (cC cy (adC h0 u) 0) 158 (stC.1 158) (stC.2 158)) := rfl
theorem wSRc_159 (cy : Nat → ClassId) (h0 : Nat) (u : (Nat → Nat) × (Nat → Nat → Nat → Nat)) : (wSR cy h0 u)[38]? = some ((adC h0 u) 159, (cC cy (adC h0 u) 0) 159 (stC.1 159) (stC.2 159)) := rfl
theorem wSRc_160 (cy : Nat → ClassId) (h0 : Nat) (u : (Nat → Nat) × (Nat → Nat → Nat → Nat)) : (wSR cy h0 u)[39]? = some ((adC h0 u) 160, (cC cy (adC h0 u) 0) 160 (stC.1 160) (stC.2 160)) := rfl
theorem wSRc_161 (cy : Nat → ClassId) (h0 : Nat) (u : (Nat → Nat) × (Nat → Nat → Nat → Nat)) : (wSR cy h0 u)[40]? = some ((adC h0 u) 161, (cC cy (adC h0 u) 0) 161 (stC.1 161) (stC.2 161)) := rfl
theorem wSRc_162 (cy : Nat → ClassId) (h0 : Nat) (u : (Nat → Nat) × (Nat → Nat → Nat → Nat)) : (wSR cy h0 u)[41]? = some ((adC h0 u) 162, (cC cy (adC h0 u) 0) 162 (stC.1 162) (stC.2 162)) := rfl
theorem wSRc_163 (cy : Nat → ClassId) (h0 : Nat) (u : (Nat → Nat) × (Nat → Nat → Nat → Nat)) : (wSR cy h0 u)[42]? = some ((adC h0 u) 163, (cC cy (adC h0 u) 0) 163 (stC.1 163) (stC.2 163)) := rfl
theorem wSRc_164 (cy : Nat → ClassId) (h0 : Nat) (u : (Nat → Nat) × (Nat → Nat → Nat → Nat)) : (wSR cy h0 u)[43]? = some ((adC h0 u) 164, (cC cy (adC h0 u) 0) 164 (stC.1 164) (stC.2 164)) := rfl
theorem wSRc_165 (cy : Nat → ClassId) (h0 : Nat) (u : (Nat → Nat) × (Nat → Nat → Nat → Nat)) : (wSR cy h0 u)[44]? = some ((adC h0 u) 165, (cC cy (adC h0 u) 0) 165 (stC.1 165) (stC.2 165)) := rfl
theorem wSRc_166 (cy : Nat → ClassId) (h0 : Nat) (u : (Nat → Nat) × (Nat → Nat → Nat → Nat)) : (wSR cy h0 u)[45]? = some ((adC h0 u) 166, (cC cy (adC h0 u) 0) 166 (stC.1 166) (stC.2 166)) := rfl
theorem wSRc_167 (cy : Nat → ClassId) (h0 : Nat) (u : (Nat → Nat) × (Nat → Nat → Nat → Nat)) : (wSR cy h0 u)[46]? = some ((adC h0 u) 167, (cC cy (adC h0 u) 0) 167 (stC.1 167) (stC.2 167)) := rfl
theorem wSRc_168 (cy : Nat → ClassId) (h0 : Nat) (u : (Nat → Nat) × (Nat → Nat → Nat → Nat)) : (wSR cy h0 u)[47]? = some ((adC h0 u) 168, (cC cy (adC h0 u) 0) 168 (stC.1 168) (stC.2 168)) := rfl
theorem wSRc_169 (cy : Nat → ClassId) (h0 : Nat) (u : (Nat → Nat) × (Nat → Nat → Nat → Nat)) : (wSR cy h0 u)[48]? = some ((adC h0 u) 169, (cC cy (adC h0 u) 0) 169 (stC.1 169) (stC.2 169)) := rfl
theorem wSRc_170 (cy : Nat → ClassId) (h0 : Nat) (u : (Nat → Nat) × (Nat → Nat → Nat → Nat)) : (wSR cy h0 u)[49]? = some ((adC h0 u) 170, (cC cy (adC h0 u) 0) 170 (stC.1 170) (stC.2 170)) := rfl
theorem wSRc_171 (cy : Nat → ClassId) (h0 : Nat) (u : (Nat → Nat) × (Nat → Nat → Nat → Nat)) : (wSR cy h0 u)[50]? = some ((adC h0 u) 171, (cC cy (adC h0 u) 0) 171 (stC.1 171) (stC.2 171)) := rfl
theorem wSRc_172 (cy : Nat → ClassId) (h0 : Nat) (u : (Nat → Nat) × (Nat → Nat → Nat → Nat)) : (wSR cy h0 u)[51]? = some ((adC h0 u) 172, (cC cy (adC h0 u) 0) 172 (stC.1 172) (stC.2 172)) := rfl
theorem wSRc_173 (cy : Nat → ClassId) (h0 : Nat) (u : (Nat → Nat) × (Nat → Nat → Nat → Nat)) : (wSR cy h0 u)[52]? = some ((adC h0 u) 173, (cC cy (adC h0 u) 0) 173 (stC.1 173) (stC.2 173)) := rfl
theorem wSRc_174 (cy : Nat → ClassId) (h0 : Nat) (u : (Nat → Nat) × (Nat → Nat → Nat → Nat)) : (wSR cy h0 u)[53]? = some ((adC h0 u) 174, (cC cy (adC h0 u) 0) 174 (stC.1 174) (stC.2 174)) := rfl
theorem wSRc_175 (cy : Nat → ClassId) (h0 : Nat) (u : (Nat → Nat) × (Nat → Nat → Nat → Nat)) : (wSR cy h0 u)[54]? = some ((adC h0 u) 175, (cC cy (adC h0 u) 0) 175 (stC.1 175) (stC.2 175)) := rfl
theorem wSRc_176 (cy : Nat → ClassId) (h0 : Nat) (u : (Nat → Nat) × (Nat → Nat → Nat → Nat)) : (wSR cy h0 u)[7]? = some ((adC h0 u) 176, (cC cy (adC h0 u) 0) 176 (stC.1 176) (stC.2 176)) := rfl
theorem wSRc_177 (cy : Nat → ClassId) (h0 : Nat) (u : (Nat → Nat) × (Nat → Nat → Nat → Nat)) : (wSR cy h0 u)[8]? = some ((adC h0 u) 177, (cC cy (adC h0 u) 0) 177 (stC.1 177) (stC.2 177)) := rfl
theorem wSRc_178 (cy : Nat → ClassId) (h0 : Nat) (u : (Nat → Nat) × (Nat → Nat → Nat → Nat)) : (wSR cy h0 u)[9]? = some ((adC h0 u) 178, (cC cy (adC h0 u) 0) 178 (stC.1 178) (stC.2 178)) := rfl
theorem wSRc_179 (cy : Nat → ClassId) (h0 : Nat) (u : (Nat → Nat) × (Nat → Nat → Nat → Nat)) : (wSR cy h0 u)[10]? = some ((adC h0 u) 179, (cC cy (adC h0 u) 0) 179 (stC.1 179) (stC.2 179)) := rfl
theorem wSRc_180 (cy : Nat → ClassId) (h0 : Nat) (u : (Nat → Nat) × (Nat → Nat → Nat → Nat)) : (wSR cy h0 u)[11]? = some ((adC h0 u) 180, (cC cy (adC h0 u) 0) 180 (stC.1 180) (stC.2 180)) := rfl
theorem wSRc_181 (cy : Nat → ClassId) (h0 : Nat) (u : (Nat → Nat) × (Nat → Nat → Nat → Nat)) : (wSR cy h0 u)[12]? = some ((adC h0 u) 181, (cC cy (adC h0 u) 0) 181 (stC.1 181) (stC.2 181)) := rfl
theorem wSRc_182 (cy : Nat → ClassId) (h0 : Nat) (u : (Nat → Nat) × (Nat → Nat → Nat → Nat)) : (wSR cy h0 u)[124]? = some ((adC h0 u) 182, (cC cy (adC h0 u) 0) 182 (stC.1 182) (stC.2 182)) := rfl
theorem wSRc_183 (cy : Nat → ClassId) (h0 : Nat) (u : (Nat → Nat) × (Nat → Nat → Nat → Nat)) : (wSR cy h0 u)[125]? = some ((adC h0 u) 183, (cC cy (adC h0 u) 0) 183 (stC.1 183) (stC.2 183)) := rfl
theorem wSRc_184 (cy : Nat → ClassId) (h0 : Nat) (u : (Nat → Nat) × (Nat → Nat → Nat → Nat)) : (wSR cy h0 u)[126]? = some ((adC h0 u) 184, (cC cy (adC h0 u) 0) 184 (stC.1 184) (stC.2 184)) := rfl
theorem wSRc_185 (cy : Nat → ClassId) (h0 : Nat) (u : (Nat → Nat) × (Nat → Nat → Nat → Nat)) : (wSR cy h0 u)[127]? = some ((adC h0 u) 185, (cC cy (adC h0 u) 0) 185 (stC.1 185) (stC.2 185)) := rfl
theorem wSRc_186 (cy : Nat → ClassId) (h0 : Nat) (u : (Nat → Nat) × (Nat → Nat → Nat → Nat)) : (wSR cy h0 u)[128]? = some ((adC h0 u) 186, (cC cy (adC h0 u) 0) 186 (stC.1 186) (stC.2 186)) := rfl
theorem wSRc_187 (cy : Nat → ClassId) (h0 : Nat) (u : (Nat → Nat) × (Nat → Nat → Nat → Nat)) : (wSR cy h0 u)[129]? = some ((adC h0 u) 187, (cC cy (adC h0 u) 0) 187 (stC.1 187) (stC.2 187)) := rfl
theorem wSRc_rg : List.range 188 = [0, 1, 2, 3, 4, 5, 6, 7, 8, 9, 10, 11, 12, 13, 14, 15, 16, 17, 18, 19, 20, 21, 22, 23, 24, 25, 26, 27, 28, 29, 30, 31, 32, 33, 34, 35, 36, 37, 38, 39, 40, 41, 42, 43, 44, 45, 46, 47, 48, 49, 50, 51, 52, 53, 54, 55, 56, 57, 58, 59, 60, 61, 62, 63, 64, 65, 66, 67, 68, 69, 70, 71, 72, 73, 74, 75, 76, 77, 78, 79, 80, 81, 82, 83, 84, 85, 86, 87, 88, 89, 90, 91, 92, 93, 94, 95, 96, 97, 98, 99, 100, 101, 102, 103, 104, 105, 106, 107, 108, 109, 110, 111, 112, 113, 114, 115, 116, 117, 118, 119, 120, 121, 122, 123, 124, 125, 126, 127, 128, 129, 130, 131, 132, 133, 134, 135, 136, 137, 138, 139, 140, 141, 142, 143, 144, 145, 146, 147, 148, 149, 150, 151, 152, 153, 154, 155, 156, 157, 158, 159, 160, 161, 162, 163, 164, 165, 166, 167, 168, 169, 170, 171, 172, 173, 174, 175, 176, 177, 178, 179, 180, 181, 182, 183, 184, 185, 186, 187] := by decide +kernel
set_option maxRecDepth 100000 in
theorem wSRc_map (cy : Nat → ClassId) (h0 : Nat) (u : (Nat → Nat) × (Nat → Nat → Nat → Nat)) : ([0, 186, 187, 142, 143, 144, 145, 136, 137, 138, 139, 140, 141, 134, 130, 131, 132, 133, 55, 56, 57, 58, 59, 60, 61, 62, 63, 18, 19, 20, 21, 22, 15, 16, 17, 13, 14, 2, 5, 6, 3, 4, 1, 135, 146, 147, 148, 149, 150, 151, 152, 153, 154, 155, 156, 157, 158, 159, 160, 161, 162, 163, 164, 165, 166, 167, 168, 169, 170, 171, 172, 173, 174, 175, 176, 177, 178, 179, 180, 181, 182, 183, 184, 185, 112, 113, 114, 115, 116, 117, 118, 119, 120, 121, 122, 123, 100, 101, 102, 103, 104, 105, 106, 107, 108, 109, 110, 111, 88, 89, 90, 91, 92, 93, 94, 95, 96, 97, 98, 99, 76, 77, 78, 79, 80, 81, 82, 83, 84, 85, 86, 87, 64, 65, 66, 67, 68, 69, 70, 71, 72, 73, 74, 75, 23, 24, 25, 26, 27, 28, 29, 30, 31, 32, 33, 34, 35, 36, 37, 38, 39, 40, 41, 42, 43, 44, 45, 46, 47, 48, 49, 50, 51, 52, 53, 54, 7, 8, 9, 10, 11, 12, 124, 125, 126, 127, 128, 129] : List Nat).map (fun i => (wSR cy h0 u)[i]?) = (wG ((cC cy (adC h0 u) 0)) ((adC h0 u)) 188 stC).map some := by
  unfold wG
  rw [wSRc_rg]
  exact (congr (congrArg List.cons (wSRc_0 cy h0 u)) (congr (congrArg List.cons (wSRc_1 cy h0 u)) (congr (congrArg List.cons (wSRc_2 cy h0 u)) (congr (congrArg List.cons (wSRc_3 cy h0 u)) (congr (congrArg List.cons (wSRc_4 cy h0 u)) (congr (congrArg List.cons (wSRc_5 cy h0 u)) (congr (congrArg List.cons (wSRc_6 cy h0 u)) (congr (congrArg List.cons (wSRc_7 cy h0 u)) (congr (congrArg List.cons (wSRc_8 cy h0 u)) (congr (congrArg List.cons (wSRc_9 cy h0 u)) (congr (congrArg List.cons (wSRc_10 cy h0 u)) (congr (congrArg List.cons (wSRc_11 cy h0 u)) (congr (congrArg List.cons (wSRc_12 cy h0 u)) (congr (congrArg List.cons (wSRc_13 cy h0 u)) (congr (congrArg List.cons (wSRc_14 cy h0 u)) (congr (congrArg List.cons (wSRc_15 cy h0 u)) (congr (congrArg List.cons (wSRc_16 cy h0 u)) (congr (congrArg List.cons (wSRc_17 cy h0 u)) (congr (congrArg List.cons (wSRc_18 cy h0 u)) (congr (congrArg List.cons (wSRc_19 cy h0 u)) (congr (congrArg List.cons (wSRc_20 cy h0 u)) (congr (congrArg List.cons (wSRc_21 cy h0 u)) (congr (congrArg List.cons (wSRc_22 cy h0 u)) (congr (congrArg List.cons (wSRc_23 cy h0 u)) (congr (congrArg List.cons (wSRc_24 cy h0 u)) (congr (congrArg List.cons (wSRc_25 cy h0 u)) (congr (congrArg List.cons (wSRc_26 cy h0 u)) (congr (congrArg List.cons (wSRc_27 cy h0 u)) (congr (congrArg List.cons (wSRc_28 cy h0 u)) (congr (congrArg List.cons (wSRc_29 cy h0 u)) (congr (congrArg List.cons (wSRc_30 cy h0 u)) (congr (congrArg List.cons (wSRc_31 cy h0 u)) (congr (congrArg List.cons (wSRc_32 cy h0 u)) (congr (congrArg List.cons (wSRc_33 cy h0 u)) (congr (congrArg List.cons (wSRc_34 cy h0 u)) (congr (congrArg List.cons (wSRc_35 cy h0 u)) (congr (congrArg List.cons (wSRc_36 cy h0 u)) (congr (congrArg List.cons (wSRc_37 cy h0 u)) (congr (congrArg List.cons (wSRc_38 cy h0 u)) (congr (congrArg List.cons (wSRc_39 cy h0 u)) (congr (congrArg List.cons (wSRc_40 cy h0 u)) (congr (congrArg List.cons (wSRc_41 cy h0 u)) (congr (congrArg List.cons (wSRc_42 cy h0 u)) (congr (congrArg List.cons (wSRc_43 cy h0 u)) (congr (congrArg List.cons (wSRc_44 cy h0 u)) (congr (congrArg List.cons (wSRc_45 cy h0 u)) (congr (congrArg List.cons (wSRc_46 cy h0 u)) (congr (congrArg List.cons (wSRc_47 cy h0 u)) (congr (congrArg List.cons (wSRc_48 cy h0 u)) (congr (congrArg List.cons (wSRc_49 cy h0 u)) (congr (congrArg List.cons (wSRc_50 cy h0 u)) (congr (congrArg List.cons (wSRc_51 cy h0 u)) (congr (congrArg List.cons (wSRc_52 cy h0 u)) (congr (congrArg List.cons (wSRc_53 cy h0 u)) (congr (congrArg List.cons (wSRc_54 cy h0 u)) (congr (congrArg List.cons (wSRc_55 cy h0 u)) (congr (congrArg List.cons (wSRc_56 cy h0 u)) (congr (congrArg List.cons (wSRc_57 cy h0 u)) (congr (congrArg List.cons (wSRc_58 cy h0 u)) (congr (congrArg List.cons (wSRc_59 cy h0 u)) (congr (congrArg List.cons (wSRc_60 cy h0 u)) (congr (congrArg List.cons (wSRc_61 cy h0 u)) (congr (congrArg List.cons (wSRc_62 cy h0 u)) (congr (congrArg List.cons (wSRc_63 cy h0 u)) (congr (congrArg List.cons (wSRc_64 cy h0 u)) (congr (congrArg List.cons (wSRc_65 cy h0 u)) (congr (congrArg List.cons (wSRc_66 cy h0 u)) (congr (congrArg List.cons (wSRc_67 cy h0 u)) (congr (congrArg List.cons (wSRc_68 cy h0 u)) (congr (congrArg List.cons (wSRc_69 cy h0 u)) (congr (congrArg List.cons (wSRc_70 cy h0 u)) (congr (congrArg List.cons (wSRc_71 cy h0 u)) (congr (congrArg List.cons (wSRc_72 cy h0 u)) (congr (congrArg List.cons (wSRc_73 cy h0 u)) (congr (congrArg List.cons (wSRc_74 cy h0 u)) (congr (congrArg List.cons (wSRc_75 cy h0 u)) (congr (congrArg List.cons (wSRc_76 cy h0 u)) (congr (congrArg List.cons (wSRc_77 cy h0 u)) (congr (congrArg List.cons (wSRc_78 cy h0 u)) (congr (congrArg List.cons (wSRc_79 cy h0 u)) (congr (congrArg List.cons (wSRc_80 cy h0 u)) (congr (congrArg List.cons (wSRc_81 cy h0 u)) (congr (congrArg List.cons (wSRc_82 cy h0 u)) (congr (congrArg List.cons (wSRc_83 cy h0 u)) (congr (congrArg List.cons (wSRc_84 cy h0 u)) (congr (congrArg List.cons (wSRc_85 cy h0 u)) (congr (congrArg List.cons (wSRc_86 cy h0 u)) (congr (congrArg List.cons (wSRc_87 cy h0 u)) (congr (congrArg List.cons (wSRc_88 cy h0 u)) (congr (congrArg List.cons (wSRc_89 cy h0 u)) (congr (congrArg List.cons (wSRc_90 cy h0 u)) (congr (congrArg List.cons (wSRc_91 cy h0 u)) (congr (congrArg List.cons (wSRc_92 cy h0 u)) (congr (congrArg List.cons (wSRc_93 cy h0 u)) (congr (congrArg List.cons (wSRc_94 cy h0 u)) (congr (congrArg List.cons (wSRc_95 cy h0 u)) (congr (congrArg List.cons (wSRc_96 cy h0 u)) (congr (congrArg List.cons (wSRc_97 cy h0 u)) (congr (congrArg List.cons (wSRc_98 cy h0 u)) (congr (congrArg List.cons (wSRc_99 cy h0 u)) (congr (congrArg List.cons (wSRc_100 cy h0 u)) (congr (congrArg List.cons (wSRc_101 cy h0 u)) (congr (congrArg List.cons (wSRc_102 cy h0 u)) (congr (congrArg List.cons (wSRc_103 cy h0 u)) (congr (congrArg List.cons (wSRc_104 cy h0 u)) (congr (congrArg List.cons (wSRc_105 cy h0 u)) (congr (congrArg List.cons (wSRc_106 cy h0 u)) (congr (congrArg List.cons (wSRc_107 cy h0 u)) (congr (congrArg List.cons (wSRc_108 cy h0 u)) (congr (congrArg List.cons (wSRc_109 cy h0 u)) (congr (congrArg List.cons (wSRc_110 cy h0 u)) (congr (congrArg List.cons (wSRc_111 cy h0 u)) (congr (congrArg List.cons (wSRc_112 cy h0 u)) (congr (congrArg List.cons (wSRc_113 cy h0 u)) (congr (congrArg List.cons (wSRc_114 cy h0 u)) (congr (congrArg List.cons (wSRc_115 cy h0 u)) (congr (congrArg List.cons (wSRc_116 cy h0 u)) (congr (congrArg List.cons (wSRc_117 cy h0 u)) (congr (congrArg List.cons (wSRc_118 cy h0 u)) (congr (congrArg List.cons (wSRc_119 cy h0 u)) (congr (congrArg List.cons (wSRc_120 cy h0 u)) (congr (congrArg List.cons (wSRc_121 cy h0 u)) (congr (congrArg List.cons (wSRc_122 cy h0 u)) (congr (congrArg List.cons (wSRc_123 cy h0 u)) (congr (congrArg List.cons (wSRc_124 cy h0 u)) (congr (congrArg List.cons (wSRc_125 cy h0 u)) (congr (congrArg List.cons (wSRc_126 cy h0 u)) (congr (congrArg List.cons (wSRc_127 cy h0 u)) (congr (congrArg List.cons (wSRc_128 cy h0 u)) (congr (congrArg List.cons (wSRc_129 cy h0 u)) (congr (congrArg List.cons (wSRc_130 cy h0 u)) (congr (congrArg List.cons (wSRc_131 cy h0 u)) (congr (congrArg List.cons (wSRc_132 cy h0 u)) (congr (congrArg List.cons (wSRc_133 cy h0 u)) (congr (congrArg List.cons (wSRc_134 cy h0 u)) (congr (congrArg List.cons (wSRc_135 cy h0 u)) (congr (congrArg List.cons (wSRc_136 cy h0 u)) (congr (congrArg List.cons (wSRc_137 cy h0 u)) (congr (congrArg List.cons (wSRc_138 cy h0 u)) (congr (congrArg List.cons (wSRc_139 cy h0 u)) (congr (congrArg List.cons (wSRc_140 cy h0 u)) (congr (congrArg List.cons (wSRc_141 cy h0 u)) (congr (congrArg List.cons (wSRc_142 cy h0 u)) (congr (congrArg List.cons (wSRc_143 cy h0 u)) (congr (congrArg List.cons (wSRc_144 cy h0 u)) (congr (congrArg List.cons (wSRc_145 cy h0 u)) (congr (congrArg List.cons (wSRc_146 cy h0 u)) (congr (congrArg List.cons (wSRc_147 cy h0 u)) (congr (congrArg List.cons (wSRc_148 cy h0 u)) (congr (congrArg List.cons (wSRc_149 cy h0 u)) (congr (congrArg List.cons (wSRc_150 cy h0 u)) (congr (congrArg List.cons (wSRc_151 cy h0 u)) (congr (congrArg List.cons (wSRc_152 cy h0 u)) (congr (congrArg List.cons (wSRc_153 cy h0 u)) (congr (congrArg List.cons (wSRc_154 cy h0 u)) (congr (congrArg List.cons (wSRc_155 cy h0 u)) (congr (congrArg List.cons (wSRc_156 cy h0 u)) (congr (congrArg List.cons (wSRc_157 cy h0 u)) (congr (congrArg List.cons (wSRc_158 cy h0 u)) (congr (congrArg List.cons (wSRc_159 cy h0 u)) (congr (congrArg List.cons (wSRc_160 cy h0 u)) (congr (congrArg List.cons (wSRc_161 cy h0 u)) (congr (congrArg List.cons (wSRc_162 cy h0 u)) (congr (congrArg List.cons (wSRc_163 cy h0 u)) (congr (congrArg List.cons (wSRc_164 cy h0 u)) (congr (congrArg List.cons (wSRc_165 cy h0 u)) (congr (congrArg List.cons (wSRc_166 cy h0 u)) (congr (congrArg List.cons (wSRc_167 cy h0 u)) (congr (congrArg List.cons (wSRc_168 cy h0 u)) (congr (congrArg List.cons (wSRc_169 cy h0 u)) (congr (congrArg List.cons (wSRc_170 cy h0 u)) (congr (congrArg List.cons (wSRc_171 cy h0 u)) (congr (congrArg List.cons (wSRc_172 cy h0 u)) (congr (congrArg List.cons (wSRc_173 cy h0 u)) (congr (congrArg List.cons (wSRc_174 cy h0 u)) (congr (congrArg List.cons (wSRc_175 cy h0 u)) (congr (congrArg List.cons (wSRc_176 cy h0 u)) (congr (congrArg List.cons (wSRc_177 cy h0 u)) (congr (congrArg List.cons (wSRc_178 cy h0 u)) (congr (congrArg List.cons (wSRc_179 cy h0 u)) (congr (congrArg List.cons (wSRc_180 cy h0 u)) (congr (congrArg List.cons (wSRc_181 cy h0 u)) (congr (congrArg List.cons (wSRc_182 cy h0 u)) (congr (congrArg List.cons (wSRc_183 cy h0 u)) (congr (congrArg List.cons (wSRc_184 cy h0 u)) (congr (congrArg List.cons (wSRc_185 cy h0 u)) (congr (congrArg List.cons (wSRc_186 cy h0 u)) (congr (congrArg List.cons (wSRc_187 cy h0 u)) rfl))))))))))))))))))))))))))))))))))))))))))))))))))))))))))))))))))))))))))))))))))))))))))))))))))))))))))))))))))))))))))))))))))))))))))))))))))))))))))))))))))))))))))))))))))))))))))))
theorem wSR_map (cy : Nat → ClassId) (h0 : Nat) (u : (Nat → Nat) × (Nat → Nat → Nat → Nat)) : ([0, 186, 187, 142, 143, 144, 145, 136, 137, 138, 139, 140, 141, 134, 130, 131, 132, 133, 55, 56, 57, 58, 59, 60, 61, 62, 63, 18, 19, 20, 21, 22, 15, 16, 17, 13, 14, 2, 5, 6, 3, 4, 1, 135, 146, 147, 148, 149, 150, 151, 152, 153, 154, 155, 156, 157, 158, 159, 160, 161, 162, 163, 164, 165, 166, 167, 168, 169, 170, 171, 172, 173, 174, 175, 176, 177, 178, 179, 180, 181, 182, 183, 184, 185, 112, 113, 114, 115, 116, 117, 118, 119, 120, 121, 122, 123, 100, 101, 102, 103, 104, 105, 106, 107, 108, 109, 110, 111, 88, 89, 90, 91, 92, 93, 94, 95, 96, 97, 98, 99, 76, 77, 78, 79, 80, 81, 82, 83, 84, 85, 86, 87, 64, 65, 66, 67, 68, 69, 70, 71, 72, 73, 74, 75, 23, 24, 25, 26, 27, 28, 29, 30, 31, 32, 33, 34, 35, 36, 37, 38, 39, 40, 41, 42, 43, 44, 45, 46, 47, 48, 49, 50, 51, 52, 53, 54, 7, 8, 9, 10, 11, 12, 124, 125, 126, 127, 128, 129] : List Nat).map (fun i => (wSR cy h0 u)[i]?) = (wG (cC cy (adC h0 u) 0) (adC h0 u) (182 + 6 * 1) stC).map some := wSRc_map cy h0 u
theorem wSR_fm (cy : Nat → ClassId) (h0 : Nat) (u : (Nat → Nat) × (Nat → Nat → Nat → Nat)) : ([0, 186, 187, 142, 143, 144, 145, 136, 137, 138, 139, 140, 141, 134, 130, 131, 132, 133, 55, 56, 57, 58, 59, 60, 61, 62, 63, 18, 19, 20, 21, 22, 15, 16, 17, 13, 14, 2, 5, 6, 3, 4, 1, 135, 146, 147, 148, 149, 150, 151, 152, 153, 154, 155, 156, 157, 158, 159, 160, 161, 162, 163, 164, 165, 166, 167, 168, 169, 170, 171, 172, 173, 174, 175, 176, 177, 178, 179, 180, 181, 182, 183, 184, 185, 112, 113, 114, 115, 116, 117, 118, 119, 120, 121, 122, 123, 100, 101, 102, 103, 104, 105, 106, 107, 108, 109, 110, 111, 88, 89, 90, 91, 92, 93, 94, 95, 96, 97, 98, 99, 76, 77, 78, 79, 80, 81, 82, 83, 84, 85, 86, 87, 64, 65, 66, 67, 68, 69, 70, 71, 72, 73, 74, 75, 23, 24, 25, 26, 27, 28, 29, 30, 31, 32, 33, 34, 35, 36, 37, 38, 39, 40, 41, 42, 43, 44, 45, 46, 47, 48, 49, 50, 51, 52, 53, 54, 7, 8, 9, 10, 11, 12, 124, 125, 126, 127, 128, 129] : List Nat).filterMap (fun i => (wSR cy h0 u)[i]?) = wG (cC cy (adC h0 u) 0) (adC h0 u) (182 + 6 * 1) stC := fm_of (wSR_map cy h0 u)
theorem wSR_P {cy : Nat → ClassId} {h0 : Nat} {u : (Nat → Nat) × (Nat → Nat → Nat → Nat)} {D : va_G} {cl : List vw_C} {H : Heap} (h : va_P D cl (wSR cy h0 u) H) : va_P D cl (wG (cC cy (adC h0 u) 0) (adC h0 u) (182 + 6 * 1) stC) H := h.sub _ (wSR_fm cy h0 u)
theorem wSR_D {cy : Nat → ClassId} {h0 : Nat} {u : (Nat → Nat) × (Nat → Nat → Nat → Nat)} {A : Nat → Prop} (h : va_D A (wSR cy h0 u)) : va_D A (wG (cC cy (adC h0 u) 0) (adC h0 u) (182 + 6 * 1) stC) := h.sub _ isC_nd (wSR_map cy h0 u)
noncomputable def wSM_l0 (cy : Nat → ClassId) (h0 : Nat) (u : Nat → Nat → Nat) : va_W := [(h0, .inr (12, [.int 0, .ref (u 0 0), .ref (u 0 1), .int 0, .ref (u 0 2), .ref (u 0 3), .ref (u 0 4), .ref (u 0 5), .ref (u 0 6), .int 0, .ref (u 0 7), .ref (u 0 8), .ref (u 0 9), .ref (u 0 10), .ref (u 0 11), .ref (u 0 12), .ref (u 0 13), .ref (u 0 14), .ref (u 0 15), .ref (u 0 16), .ref (u 0 17), .ref (u 0 18), .int 0, .ref (u 0 19), .ref (u 0 20), .ref (u 0 21), .ref (u 0 22), .ref (u 0 23), .ref (u 0 24), .int 0, .int 0, .ref (u 0 25), .int 0, .ref (u 0 26), .int 0, .ref (u 0 27), .int (-1), .ref (u 0 28), .int 0, .ref (u 0 29), .ref (u 0 30), .ref (u 0 31), .ref (u 0 32), .ref (u 0 33), .int 0, .int 0, .int 0, .int 0, .int 0, .int 0, .int 0, .int 0, .ref (u 0 34), .int 0, .ref (u 0 35), .int 0, .ref (u 0 36), .ref (u 0 37), .ref (u 0 38)])), ((u 0 5), .inl (cy 0, 12, .inl (fun _ => (-1)))), ((u 0 21), .inl (cy 0, 480, .inl (fun _ => (-2)))), ((u 0 29), .inl (cy 0, 6, .inl (fun _ => (-1)))), ((u 0 30), .inl (cy 0, 6, .inl (fun _ => (-1))))]
noncomputable def wSM_l1 (cy : Nat → ClassId) (h0 : Nat) (u : Nat → Nat → Nat) : va_W := [((u 0 38), .inl (cy 0, 5, .inl (fun _ => 0)))]
noncomputable def wSM_l2 (cy : Nat → ClassId) (h0 : Nat) (u : Nat → Nat → Nat) : va_W := [((u 0 37), .inl (cy 0, 1280, .inl (fun _ => 0)))]
noncomputable def wSM_l3 (cy : Nat → ClassId) (h0 : Nat) (u : Nat → Nat → Nat) : va_W := [((u 0 36), .inl (cy 0, 12, .inl (fun _ => 0)))]
noncomputable def wSM_l4 (cy : Nat → ClassId) (h0 : Nat) (u : Nat → Nat → Nat) : va_W := [((u 0 35), .inl (cy 0, 4, .inl (fun _ => 0)))]
noncomputable def wSM_l5 (cy : Nat → ClassId) (h0 : Nat) (u : Nat → Nat → Nat) : va_W := [((u 0 34), .inl (cy 0, 12, .inl (fun _ => 0)))]
noncomputable def wSM_l6 (cy : Nat → ClassId) (h0 : Nat) (u : Nat → Nat → Nat) : va_W := [((u 0 33), .inl (cy 0, 6, .inl (fun _ => 0)))]
noncomputable def wSM_l7 (cy : Nat → ClassId) (h0 : Nat) (u : Nat → Nat → Nat) : va_W := [((u 0 32), .inl (cy 4, 360, .inr (.inl (fun _ => 0))))]
noncomputable def wSM_l8 (cy : Nat → ClassId) (h0 : Nat) (u : Nat → Nat → Nat) : va_W := [((u 0 31), .inl (cy 0, 6, .inl (fun _ => 0)))]
noncomputable def wSM_l9 (cy : Nat → ClassId) (h0 : Nat) (u : Nat → Nat → Nat) : va_W := [((u 0 28), .inl (cy 0, 24, .inl (fun _ => 0)))]
noncomputable def wSM_l10 (cy : Nat → ClassId) (h0 : Nat) (u : Nat → Nat → Nat) : va_W := [((u 0 27), .inl (cy 0, 6, .inl (fun _ => 0)))]
noncomputable def wSM_l11 (cy : Nat → ClassId) (h0 : Nat) (u : Nat → Nat → Nat) : va_W := [((u 0 26), .inl (cy 0, 5, .inl (fun _ => 0)))]
noncomputable def wSM_l12 (cy : Nat → ClassId) (h0 : Nat) (u : Nat → Nat → Nat) : va_W := [((u 0 25), .inl (cy 0, 5, .inl (fun _ => 0)))]
noncomputable def wSM_l13 (cy : Nat → ClassId) (h0 : Nat) (u : Nat → Nat → Nat) : va_W := [((u 0 24), .inl (cy 0, 40, .inl (fun _ => 0)))]
noncomputable def wSM_l14 (cy : Nat → ClassId) (h0 : Nat) (u : Nat → Nat → Nat) : va_W := [((u 0 23), .inl (cy 0, 480, .inl (fun _ => 0)))]
noncomputable def wSM_l15 (cy : Nat → ClassId) (h0 : Nat) (u : Nat → Nat → Nat) : va_W := [((u 0 22), .inl (cy 0, 480, .inl (fun _ => 0)))]
noncomputable def wSM_l16 (cy : Nat → ClassId) (h0 : Nat) (u : Nat → Nat → Nat) : va_W := [((u 0 20), .inl (cy 0, 480, .inl (fun _ => 0)))]
noncomputable def wSM_l17 (cy : Nat → ClassId) (h0 : Nat) (u : Nat → Nat → Nat) : va_W := [((u 0 19), .inl (cy 0, 480, .inl (fun _ => 0)))]
noncomputable def wSM_l18 (cy : Nat → ClassId) (h0 : Nat) (u : Nat → Nat → Nat) : va_W := [((u 0 18), .inl (cy 0, 80, .inl (fun _ => 0)))]
noncomputable def wSM_l19 (cy : Nat → ClassId) (h0 : Nat) (u : Nat → Nat → Nat) : va_W := [((u 0 17), .inl (cy 0, 11000, .inl (fun _ => 0)))]
noncomputable def wSM_l20 (cy : Nat → ClassId) (h0 : Nat) (u : Nat → Nat → Nat) : va_W := [((u 0 16), .inl (cy 0, 11, .inl (fun _ => 0)))]
noncomputable def wSM_l21 (cy : Nat → ClassId) (h0 : Nat) (u : Nat → Nat → Nat) : va_W := [((u 0 15), .inl (cy 0, 132, .inl (fun _ => 0)))]
noncomputable def wSM_l22 (cy : Nat → ClassId) (h0 : Nat) (u : Nat → Nat → Nat) : va_W := [((u 0 14), .inl (cy 0, 132, .inl (fun _ => 0)))]
noncomputable def wSM_l23 (cy : Nat → ClassId) (h0 : Nat) (u : Nat → Nat → Nat) : va_W := [((u 0 13), .inl (cy 0, 880, .inl (fun _ => 0)))]
noncomputable def wSM_l24 (cy : Nat → ClassId) (h0 : Nat) (u : Nat → Nat → Nat) : va_W := [((u 0 12), .inl (cy 0, 11, .inl (fun _ => 0)))]
noncomputable def wSM_l25 (cy : Nat → ClassId) (h0 : Nat) (u : Nat → Nat → Nat) : va_W := [((u 0 11), .inl (cy 0, 11, .inl (fun _ => 0)))]
noncomputable def wSM_l26 (cy : Nat → ClassId) (h0 : Nat) (u : Nat → Nat → Nat) : va_W := [((u 0 10), .inl (cy 0, 11, .inl (fun _ => 0)))]
noncomputable def wSM_l27 (cy : Nat → ClassId) (h0 : Nat) (u : Nat → Nat → Nat) : va_W := [((u 0 9), .inl (cy 0, 11, .inl (fun _ => 0)))]
noncomputable def wSM_l28 (cy : Nat → ClassId) (h0 : Nat) (u : Nat → Nat → Nat) : va_W := [((u 0 8), .inl (cy 0, 11, .inl (fun _ => 0)))]
noncomputable def wSM_l29 (cy : Nat → ClassId) (h0 : Nat) (u : Nat → Nat → Nat) : va_W := [((u 0 7), .inl (cy 0, 11, .inl (fun _ => 0)))]
noncomputable def wSM_l30 (cy : Nat → ClassId) (h0 : Nat) (u : Nat → Nat → Nat) : va_W := [((u 0 6), .inl (cy 2, 12, .inl (fun _ => 0)))]
noncomputable def wSM_l31 (cy : Nat → ClassId) (h0 : Nat) (u : Nat → Nat → Nat) : va_W := [((u 0 4), .inl (cy 0, 12, .inl (fun _ => 0)))]
noncomputable def wSM_l32 (cy : Nat → ClassId) (h0 : Nat) (u : Nat → Nat → Nat) : va_W := [((u 0 3), .inl (cy 0, 12, .inl (fun _ => 0)))]
noncomputable def wSM_l33 (cy : Nat → ClassId) (h0 : Nat) (u : Nat → Nat → Nat) : va_W := [((u 0 2), .inl (cy 0, 12, .inl (fun _ => 0)))]
noncomputable def wSM_l34 (cy : Nat → ClassId) (h0 : Nat) (u : Nat → Nat → Nat) : va_W := [((u 0 1), .inl (cy 0, 240, .inl (fun _ => 0)))]
noncomputable def wSM_l35 (cy : Nat → ClassId) (h0 : Nat) (u : Nat → Nat → Nat) : va_W := [((u 0 0), .inl (cy 0, 40, .inl (fun _ => 0)))]
noncomputable def wSM (cy : Nat → ClassId) (h0 : Nat) (u : Nat → Nat → Nat) : va_W := ((wSM_l0 cy h0 u) ++ ((wSM_l1 cy h0 u) ++ ((wSM_l2 cy h0 u) ++ ((wSM_l3 cy h0 u) ++ ((wSM_l4 cy h0 u) ++ ((wSM_l5 cy h0 u) ++ ((wSM_l6 cy h0 u) ++ ((wSM_l7 cy h0 u) ++ ((wSM_l8 cy h0 u) ++ ((wSM_l9 cy h0 u) ++ ((wSM_l10 cy h0 u) ++ ((wSM_l11 cy h0 u) ++ ((wSM_l12 cy h0 u) ++ ((wSM_l13 cy h0 u) ++ ((wSM_l14 cy h0 u) ++ ((wSM_l15 cy h0 u) ++ ((wSM_l16 cy h0 u) ++ ((wSM_l17 cy h0 u) ++ ((wSM_l18 cy h0 u) ++ ((wSM_l19 cy h0 u) ++ ((wSM_l20 cy h0 u) ++ ((wSM_l21 cy h0 u) ++ ((wSM_l22 cy h0 u) ++ ((wSM_l23 cy h0 u) ++ ((wSM_l24 cy h0 u) ++ ((wSM_l25 cy h0 u) ++ ((wSM_l26 cy h0 u) ++ ((wSM_l27 cy h0 u) ++ ((wSM_l28 cy h0 u) ++ ((wSM_l29 cy h0 u) ++ ((wSM_l30 cy h0 u) ++ ((wSM_l31 cy h0 u) ++ ((wSM_l32 cy h0 u) ++ ((wSM_l33 cy h0 u) ++ ((wSM_l34 cy h0 u) ++ (wSM_l35 cy h0 u))))))))))))))))))))))))))))))))))))
noncomputable def adM (h0 : Nat) (u : Nat → Nat → Nat) (k : Nat) : Nat := ([h0, (u 0 0), (u 0 1), (u 0 2), (u 0 3), (u 0 4), (u 0 5), (u 0 6), (u 0 7), (u 0 8), (u 0 9), (u 0 10), (u 0 11), (u 0 12), (u 0 13), (u 0 14), (u 0 15), (u 0 16), (u 0 17), (u 0 18), (u 0 19), (u 0 20), (u 0 21), (u 0 22), (u 0 23), (u 0 24), (u 0 25), (u 0 26), (u 0 27), (u 0 28), (u 0 29), (u 0 30), (u 0 31), (u 0 32), (u 0 33), (u 0 34), (u 0 35), (u 0 36), (u 0 37), (u 0 38)] : List Nat).getD k 0
noncomputable def sM (k i : Nat) : Int32 := match k with | 0 => (match i with | 36 => (-1) | _ => 0) | 6 => (-1) | 22 => (-2) | 30 => (-1) | 31 => (-1) | _ => 0
noncomputable def stM : S2 := (sM, fun _ _ => 0)
theorem isM_nd : va_nd ([0, 39, 38, 37, 36, 35, 1, 34, 33, 32, 31, 30, 29, 28, 27, 26, 25, 24, 23, 22, 21, 20, 2, 19, 18, 17, 16, 15, 14, 13, 3, 4, 12, 11, 10, 9, 8, 7, 6, 5] : List Nat) = true := by decide +kernel
theorem wSMc_0 (cy : Nat → ClassId) (h0 : Nat) (u : Nat → Nat → Nat) : (wSM cy h0 u)[0]? = some ((adM h0 u) 0, (cM cy (adM h0 u)) 0 (stM.1 0) (stM.2 0)) := rfl
theorem wSMc_1 (cy : Nat → ClassId) (h0 : Nat) (u : Nat → Nat → Nat) : (wSM cy h0 u)[39]? = some ((adM h0 u) 1, (cM cy (adM h0 u)) 1 (stM.1 1) (stM.2 1)) := rfl
theorem wSMc_2 (cy : Nat → ClassId) (h0 : Nat) (u : Nat → Nat → Nat) : (wSM cy h0 u)[38]? = some ((adM h0 u) 2, (cM cy (adM h0 u)) 2 (stM.1 2) (stM.2 2)) := rfl
theorem wSMc_3 (cy : Nat → ClassId) (h0 : Nat) (u : Nat → Nat → Nat) : (wSM cy h0 u)[37]? = some ((adM h0 u) 3, (cM cy (adM h0 u)) 3 (stM.1 3) (stM.2 3)) := rfl
theorem wSMc_4 (cy : Nat → ClassId) (h0 : Nat) (u : Nat → Nat → Nat) : (wSM cy h0 u)[36]? = some ((adM h0 u) 4, (cM cy (adM h0 u)) 4 (stM.1 4) (stM.2 4)) := rfl
theorem wSMc_5 (cy : Nat → ClassId) (h0 : Nat) (u : Nat → Nat → Nat) : (wSM cy h0 u)[35]? = some ((adM h0 u) 5, (cM cy (adM h0 u)) 5 (stM.1 5) (stM.2 5)) := rfl
theorem wSMc_6 (cy : Nat → ClassId) (h0 : Nat) (u : Nat → Nat → Nat) : (wSM cy h0 u)[1]? = some ((adM h0 u) 6, (cM cy (adM h0 u)) 6 (stM.1 6) (stM.2 6)) := rfl
theorem wSMc_7 (cy : Nat → ClassId) (h0 : Nat) (u : Nat → Nat → Nat) : (wSM cy h0 u)[34]? = some ((adM h0 u) 7, (cM cy (adM h0 u)) 7 (stM.1 7) (stM.2 7)) := rfl
theorem wSMc_8 (cy : Nat → ClassId) (h0 : Nat) (u : Nat → Nat → Nat) : (wSM cy h0 u)[33]? = some ((adM h0 u) 8, (cM cy (adM h0 u)) 8 (stM.1 8) (stM.2 8)) := rfl
theorem wSMc_9 (cy : Nat → ClassId) (h0 : Nat) (u : Nat → Nat → Nat) : (wSM cy h0 u)[32]? = some ((adM h0 u) 9, (cM cy (adM h0 u)) 9 (stM.1 9) (stM.2 9)) := rfl
theorem wSMc_10 (cy : Nat → ClassId) (h0 : Nat) (u : Nat → Nat → Nat) : (wSM cy h0 u)[31]? = some ((adM h0 u) 10, (cM cy (adM h0 u)) 10 (stM.1 10) (stM.2 10)) := rfl
theorem wSMc_11 (cy : Nat → ClassId) (h0 : Nat) (u : Nat → Nat → Nat) : (wSM cy h0 u)[30]? = some ((adM h0 u) 11, (cM cy (adM h0 u)) 11 (stM.1 11) (stM.2 11)) := rfl
theorem wSMc_12 (cy : Nat → ClassId) (h0 : Nat) (u : Nat → Nat → Nat) : (wSM cy h0 u)[29]? = some ((adM h0 u) 12, (cM cy (adM h0 u)) 12 (stM.1 12) (stM.2 12)) := rfl
theorem wSMc_13 (cy : Nat → ClassId) (h0 : Nat) (u : Nat → Nat → Nat) : (wSM cy h0 u)[28]? = some ((adM h0 u) 13, (cM cy (adM h0 u)) 13 (stM.1 13) (stM.2 13)) := rfl
theorem wSMc_14 (cy : Nat → ClassId) (h0 : Nat) (u : Nat → Nat → Nat) : (wSM cy h0 u)[27]? = some ((adM h0 u) 14, (cM cy (adM h0 u)) 14 (stM.1 14) (stM.2 14)) := rfl
theorem wSMc_15 (cy : Nat → ClassId) (h0 : Nat) (u : Nat → Nat → Nat) : (wSM cy h0 u)[26]? = some ((adM h0 u) 15, (cM cy (adM h0 u)) 15 (stM.1 15) (stM.2 15)) := rfl
theorem wSMc_16 (cy : Nat → ClassId) (h0 : Nat) (u : Nat → Nat → Nat) : (wSM cy h0 u)[25]? = some ((adM h0 u) 16, (cM cy (adM h0 u)) 16 (stM.1 16) (stM.2 16)) := rfl
theorem wSMc_17 (cy : Nat → ClassId) (h0 : Nat) (u : Nat → Nat → Nat) : (wSM cy h0 u)[24]? = some ((adM h0 u) 17, (cM cy (adM h0 u)) 17 (stM.1 17) (stM.2 17)) := rfl
theorem wSMc_18 (cy : Nat → ClassId) (h0 : Nat) (u : Nat → Nat → Nat) : (wSM cy h0 u)[23]? = some ((adM h0 u) 18, (cM cy (adM h0 u)) 18 (stM.1 18) (stM.2 18)) := rfl
theorem wSMc_19 (cy : Nat → ClassId) (h0 : Nat) (u : Nat → Nat → Nat) : (wSM cy h0 u)[22]? = some ((adM h0 u) 19, (cM cy (adM h0 u)) 19 (stM.1 19) (stM.2 19)) := rfl
theorem wSMc_20 (cy : Nat → ClassId) (h0 : Nat) (u : Nat → Nat → Nat) : (wSM cy h0 u)[21]? = some ((adM h0 u) 20, (cM cy (adM h0 u)) 20 (stM.1 20) (stM.2 20)) := rfl
theorem wSMc_21 (cy : Nat → ClassId) (h0 : Nat) (u : Nat → Nat → Nat) : (wSM cy h0 u)[20]? = some ((adM h0 u) 21, (cM cy (adM h0 u)) 21 (stM.1 21) (stM.2 21)) := rfl
theorem wSMc_22 (cy : Nat → ClassId) (h0 : Nat) (u : Nat → Nat → Nat) : (wSM cy h0 u)[2]? = some ((adM h0 u) 22, (cM cy (adM h0 u)) 22 (stM.1 22) (stM.2 22)) := rfl
theorem wSMc_23 (cy : Nat → ClassId) (h0 : Nat) (u : Nat → Nat → Nat) : (wSM cy h0 u)[19]? = some ((adM h0 u) 23, (cM cy (adM h0 u)) 23 (stM.1 23) (stM.2 23)) := rfl
theorem wSMc_24 (cy : Nat → ClassId) (h0 : Nat) (u : Nat → Nat → Nat) : (wSM cy h0 u)[18]? = some ((adM h0 u) 24, (cM cy (adM h0 u)) 24 (stM.1 24) (stM.2 24)) := rfl
theorem wSMc_25 (cy : Nat → ClassId) (h0 : Nat) (u : Nat → Nat → Nat) : (wSM cy h0 u)[17]? = some ((adM h0 u) 25, (cM cy (adM h0 u)) 25 (stM.1 25) (stM.2 25)) := rfl
theorem wSMc_26 (cy : Nat → ClassId) (h0 : Nat) (u : Nat → Nat → Nat) : (wSM cy h0 u)[16]? = some ((adM h0 u) 26, (cM cy (adM h0 u)) 26 (stM.1 26) (stM.2 26)) := rfl
theorem wSMc_27 (cy : Nat → ClassId) (h0 : Nat) (u : Nat → Nat → Nat) : (wSM cy h0 u)[15]? = some ((adM h0 u) 27, (cM cy (adM h0 u)) 27 (stM.1 27) (stM.2 27)) := rfl
theorem wSMc_28 (cy : Nat → ClassId) (h0 : Nat) (u : Nat → Nat → Nat) : (wSM cy h0 u)[14]? = some ((adM h0 u) 28, (cM cy (adM h0 u)) 28 (stM.1 28) (stM.2 28)) := rfl
theorem wSMc_29 (cy : Nat → ClassId) (h0 : Nat) (u : Nat → Nat → Nat) : (wSM cy h0 u)[13]? = some ((adM h0 u) 29, (cM cy (adM h0 u)) 29 (stM.1 29) (stM.2 29)) := rfl
theorem wSMc_30 (cy : Nat → ClassId) (h0 : Nat) (u : Nat → Nat → Nat) : (wSM cy h0 u)[3]? = some ((adM h0 u) 30, (cM cy (adM h0 u)) 30 (stM.1 30) (stM.2 30)) := rfl
theorem wSMc_31 (cy : Nat → ClassId) (h0 : Nat) (u : Nat → Nat → Nat) : (wSM cy h0 u)[4]? = some ((adM h0 u) 31, (cM cy (adM h0 u)) 31 (stM.1 31) (stM.2 31)) := rfl
theorem wSMc_32 (cy : Nat → ClassId) (h0 : Nat) (u : Nat → Nat → Nat) : (wSM cy h0 u)[12]? = some ((adM h0 u) 32, (cM cy (adM h0 u)) 32 (stM.1 32) (stM.2 32)) := rfl
theorem wSMc_33 (cy : Nat → ClassId) (h0 : Nat) (u : Nat → Nat → Nat) : (wSM cy h0 u)[11]? = some ((adM h0 u) 33, (cM cy (adM h0 u)) 33 (stM.1 33) (stM.2 33)) := rfl
theorem wSMc_34 (cy : Nat → ClassId) (h0 : Nat) (u : Nat → Nat → Nat) : (wSM cy h0 u)[10]? = some ((adM h0 u) 34, (cM cy (adM h0 u)) 34 (stM.1 34) (stM.2 34)) := rfl
theorem wSMc_35 (cy : Nat → ClassId) (h0 : Nat) (u : Nat → Nat → Nat) : (wSM cy h0 u)[9]? = some ((adM h0 u) 35, (cM cy (adM h0 u)) 35 (stM.1 35) (stM.2 35)) := rfl
theorem wSMc_36 (cy : Nat → ClassId) (h0 : Nat) (u : Nat → Nat → Nat) : (wSM cy h0 u)[8]? = some ((adM h0 u) 36, (cM cy (adM h0 u)) 36 (stM.1 36) (stM.2 36)) := rfl
theorem wSMc_37 (cy : Nat → ClassId) (h0 : Nat) (u : Nat → Nat → Nat) : (wSM cy h0 u)[7]? = some ((adM h0 u) 37, (cM cy (adM h0 u)) 37 (stM.1 37) (stM.2 37)) := rfl
theorem wSMc_38 (cy : Nat → ClassId) (h0 : Nat) (u : Nat → Nat → Nat) : (wSM cy h0 u)[6]? = some ((adM h0 u) 38, (cM cy (adM h0 u)) 38 (stM.1 38) (stM.2 38)) := rfl
theorem wSMc_39 (cy : Nat → ClassId) (h0 : Nat) (u : Nat → Nat → Nat) : (wSM cy h0 u)[5]? = some ((adM h0 u) 39, (cM cy (adM h0 u)) 39 (stM.1 39) (stM.2 39)) := rfl
theorem wSMc_rg : List.range 40 = [0, 1, 2, 3, 4, 5, 6, 7, 8, 9, 10, 11, 12, 13, 14, 15, 16, 17, 18, 19, 20, 21, 22, 23, 24, 25, 26, 27, 28, 29, 30, 31, 32, 33, 34, 35, 36, 37, 38, 39] := by decide +kernel
set_option maxRecDepth 100000 in
theorem wSMc_map (cy : Nat → ClassId) (h0 : Nat) (u : Nat → Nat → Nat) : ([0, 39, 38, 37, 36, 35, 1, 34, 33, 32, 31, 30, 29, 28, 27, 26, 25, 24, 23, 22, 21, 20, 2, 19, 18, 17, 16, 15, 14, 13, 3, 4, 12, 11, 10, 9, 8, 7, 6, 5] : List Nat).map (fun i => (wSM cy h0 u)[i]?) = (wG ((cM cy (adM h0 u))) ((adM h0 u)) 40 stM).map some := by
  unfold wG
  rw [wSMc_rg]
  exact (congr (congrArg List.cons (wSMc_0 cy h0 u)) (congr (congrArg List.cons (wSMc_1 cy h0 u)) (congr (congrArg List.cons (wSMc_2 cy h0 u)) (congr (congrArg List.cons (wSMc_3 cy h0 u)) (congr (congrArg List.cons (wSMc_4 cy h0 u)) (congr (congrArg List.cons (wSMc_5 cy h0 u)) (congr (congrArg List.cons (wSMc_6 cy h0 u)) (congr (congrArg List.cons (wSMc_7 cy h0 u)) (congr (congrArg List.cons (wSMc_8 cy h0 u)) (congr (congrArg List.cons (wSMc_9 cy h0 u)) (congr (congrArg List.cons (wSMc_10 cy h0 u)) (congr (congrArg List.cons (wSMc_11 cy h0 u)) (congr (congrArg List.cons (wSMc_12 cy h0 u)) (congr (congrArg List.cons (wSMc_13 cy h0 u)) (congr (congrArg List.cons (wSMc_14 cy h0 u)) (congr (congrArg List.cons (wSMc_15 cy h0 u)) (congr (congrArg List.cons (wSMc_16 cy h0 u)) (congr (congrArg List.cons (wSMc_17 cy h0 u)) (congr (congrArg List.cons (wSMc_18 cy h0 u)) (congr (congrArg List.cons (wSMc_19 cy h0 u)) (congr (congrArg List.cons (wSMc_20 cy h0 u)) (congr (congrArg List.cons (wSMc_21 cy h0 u)) (congr (congrArg List.cons (wSMc_22 cy h0 u)) (congr (congrArg List.cons (wSMc_23 cy h0 u)) (congr (congrArg List.cons (wSMc_24 cy h0 u)) (congr (congrArg List.cons (wSMc_25 cy h0 u)) (congr (congrArg List.cons (wSMc_26 cy h0 u)) (congr (congrArg List.cons (wSMc_27 cy h0 u)) (congr (congrArg List.cons (wSMc_28 cy h0 u)) (congr (congrArg List.cons (wSMc_29 cy h0 u)) (congr (congrArg List.cons (wSMc_30 cy h0 u)) (congr (congrArg List.cons (wSMc_31 cy h0 u)) (congr (congrArg List.cons (wSMc_32 cy h0 u)) (congr (congrArg List.cons (wSMc_33 cy h0 u)) (congr (congrArg List.cons (wSMc_34 cy h0 u)) (congr (congrArg List.cons (wSMc_35 cy h0 u)) (congr (congrArg List.cons (wSMc_36 cy h0 u)) (congr (congrArg List.cons (wSMc_37 cy h0 u)) (congr (congrArg List.cons (wSMc_38 cy h0 u)) (congr (congrArg List.cons (wSMc_39 cy h0 u)) rfl))))))))))))))))))))))))))))))))))))))))
theorem wSM_map (cy : Nat → ClassId) (h0 : Nat) (u : Nat → Nat → Nat) : ([0, 39, 38, 37, 36, 35, 1, 34, 33, 32, 31, 30, 29, 28, 27, 26, 25, 24, 23, 22, 21, 20, 2, 19, 18, 17, 16, 15, 14, 13, 3, 4, 12, 11, 10, 9, 8, 7, 6, 5] : List Nat).map (fun i => (wSM cy h0 u)[i]?) = (wG (cM cy (adM h0 u)) (adM h0 u) 40 stM).map some := wSMc_map cy h0 u
theorem wSM_fm (cy : Nat → ClassId) (h0 : Nat) (u : Nat → Nat → Nat) : ([0, 39, 38, 37, 36, 35, 1, 34, 33, 32, 31, 30, 29, 28, 27, 26, 25, 24, 23, 22, 21, 20, 2, 19, 18, 17, 16, 15, 14, 13, 3, 4, 12, 11, 10, 9, 8, 7, 6, 5] : List Nat).filterMap (fun i => (wSM cy h0 u)[i]?) = wG (cM cy (adM h0 u)) (adM h0 u) 40 stM := fm_of (wSM_map cy h0 u)
theorem wSM_P {cy : Nat → ClassId} {h0 : Nat} {u : Nat → Nat → Nat} {D : va_G} {cl : List vw_C} {H : Heap} (h : va_P D cl (wSM cy h0 u) H) : va_P D cl (wG (cM cy (adM h0 u)) (adM h0 u) 40 stM) H := h.sub _ (wSM_fm cy h0 u)
theorem wSM_D {cy : Nat → ClassId} {h0 : Nat} {u : Nat → Nat → Nat} {A : Nat → Prop} (h : va_D A (wSM cy h0 u)) : va_D A (wG (cM cy (adM h0 u)) (adM h0 u) 40 stM) := h.sub _ isM_nd (wSM_map cy h0 u)
theorem bvF : ∀ k : Nat, k < 44 → ∀ i : Nat, loF k i ≤ (sC k i).toInt ∧ (sC k i).toInt ≤ hiF k i := fun k hk => match k, hk with
  | 0, _ => fun i => match i with | 0 => ⟨by show ((-2147483648) : Int) ≤ (0 : Int32).toInt; decide, by show (0 : Int32).toInt ≤ (2147483647 : Int); decide⟩ | 1 => ⟨by show ((-2147483648) : Int) ≤ (0 : Int32).toInt; decide, by show (0 : Int32).toInt ≤ (2147483647 : Int); decide⟩ | 2 => ⟨by show ((-2147483648) : Int) ≤ (0 : Int32).toInt; decide, by show (0 : Int32).toInt ≤ (2147483647 : Int); decide⟩ | 3 => ⟨by show ((-2147483648) : Int) ≤ (0 : Int32).toInt; decide, by show (0 : Int32).toInt ≤ (2147483647 : Int); decide⟩ | 4 => ⟨by show ((-2147483648) : Int) ≤ (0 : Int32).toInt; decide, by show (0 : Int32).toInt ≤ (2147483647 : Int); decide⟩ | 5 => ⟨by show ((-2147483648) : Int) ≤ (0 : Int32).toInt; decide, by show (0 : Int32).toInt ≤ (2147483647 : Int); decide⟩ | 6 => ⟨by show (0 : Int) ≤ (0 : Int32).toInt; decide, by show (0 : Int32).toInt ≤ (10 : Int); decide⟩ | 7 => ⟨by show ((-2147483648) : Int) ≤ (0 : Int32).toInt; decide, by show (0 : Int32).toInt ≤ (2147483647 : Int); decide⟩ | 8 => ⟨by show ((-2147483648) : Int) ≤ (0 : Int32).toInt; decide, by show (0 : Int32).toInt ≤ (2147483647 : Int); decide⟩ | 9 => ⟨by show ((-2147483648) : Int) ≤ (0 : Int32).toInt; decide, by show (0 : Int32).toInt ≤ (2147483647 : Int); decide⟩ | 10 => ⟨by show ((-2147483648) : Int) ≤ (0 : Int32).toInt; decide, by show (0 : Int32).toInt ≤ (2147483647 : Int); decide⟩ | 11 => ⟨by show ((-2147483648) : Int) ≤ (0 : Int32).toInt; decide, by show (0 : Int32).toInt ≤ (2147483647 : Int); decide⟩ | 12 => ⟨by show ((-2147483648) : Int) ≤ (0 : Int32).toInt; decide, by show (0 : Int32).toInt ≤ (2147483647 : Int); decide⟩ | _ + 13 => ⟨(i32_rng _).1, (i32_rng _).2⟩
  | 1, _ => fun i => match i with | 0 => ⟨by show ((-2147483648) : Int) ≤ (0 : Int32).toInt; decide, by show (0 : Int32).toInt ≤ (2147483647 : Int); decide⟩ | 1 => ⟨by show (0 : Int) ≤ (0 : Int32).toInt; decide, by show (0 : Int32).toInt ≤ (80 : Int); decide⟩ | _ + 2 => ⟨(i32_rng _).1, (i32_rng _).2⟩
  | 2, _ => fun _ => ⟨by show ((-128) : Int) ≤ (0 : Int32).toInt; decide, by show (0 : Int32).toInt ≤ (127 : Int); decide⟩
  | 3, _ => fun i => match i with | 0 => ⟨by show ((-2147483648) : Int) ≤ (0 : Int32).toInt; decide, by show (0 : Int32).toInt ≤ (2147483647 : Int); decide⟩ | 1 => ⟨by show ((-2147483648) : Int) ≤ (0 : Int32).toInt; decide, by show (0 : Int32).toInt ≤ (2147483647 : Int); decide⟩ | 2 => ⟨by show ((-2147483648) : Int) ≤ (0 : Int32).toInt; decide, by show (0 : Int32).toInt ≤ (2147483647 : Int); decide⟩ | 3 => ⟨by show (0 : Int) ≤ (0 : Int32).toInt; decide, by show (0 : Int32).toInt ≤ (40 : Int); decide⟩ | _ + 4 => ⟨(i32_rng _).1, (i32_rng _).2⟩
  | 4, _ => fun _ => ⟨(i32_rng _).1, (i32_rng _).2⟩
  | 5, _ => fun _ => ⟨by show (0 : Int) ≤ (0 : Int32).toInt; decide, by show (0 : Int32).toInt ≤ (6 : Int); decide⟩
  | 6, _ => fun _ => ⟨by show ((-128) : Int) ≤ (0 : Int32).toInt; decide, by show (0 : Int32).toInt ≤ (127 : Int); decide⟩
  | 7, _ => fun i => match i with | 0 => ⟨by show ((-2147483648) : Int) ≤ (0 : Int32).toInt; decide, by show (0 : Int32).toInt ≤ (2147483647 : Int); decide⟩ | 1 => ⟨by show ((-2147483648) : Int) ≤ (0 : Int32).toInt; decide, by show (0 : Int32).toInt ≤ (2147483647 : Int); decide⟩ | 2 => ⟨by show ((-2147483648) : Int) ≤ (0 : Int32).toInt; decide, by show (0 : Int32).toInt ≤ (2147483647 : Int); decide⟩ | 3 => ⟨by show ((-2147483648) : Int) ≤ (0 : Int32).toInt; decide, by show (0 : Int32).toInt ≤ (2147483647 : Int); decide⟩ | 4 => ⟨by show ((-2147483648) : Int) ≤ (0 : Int32).toInt; decide, by show (0 : Int32).toInt ≤ (2147483647 : Int); decide⟩ | 5 => ⟨by show (0 : Int) ≤ (0 : Int32).toInt; decide, by show (0 : Int32).toInt ≤ (12 : Int); decide⟩ | _ + 6 => ⟨(i32_rng _).1, (i32_rng _).2⟩
  | 8, _ => fun _ => ⟨by show (0 : Int) ≤ (0 : Int32).toInt; decide, by show (0 : Int32).toInt ≤ (6 : Int); decide⟩
  | 9, _ => fun _ => ⟨by show (0 : Int) ≤ (0 : Int32).toInt; decide, by show (0 : Int32).toInt ≤ (5 : Int); decide⟩
  | 10, _ => fun _ => ⟨by show (0 : Int) ≤ (0 : Int32).toInt; decide, by show (0 : Int32).toInt ≤ (8 : Int); decide⟩
  | 11, _ => fun _ => ⟨by show ((-1) : Int) ≤ (0 : Int32).toInt; decide, by show (0 : Int32).toInt ≤ (9 : Int); decide⟩
  | 12, _ => fun _ => ⟨by show (0 : Int) ≤ (0 : Int32).toInt; decide, by show (0 : Int32).toInt ≤ (1 : Int); decide⟩
  | 13, _ => fun i => match i with | 0 => ⟨by show (0 : Int) ≤ (0 : Int32).toInt; decide, by show (0 : Int32).toInt ≤ (1 : Int); decide⟩ | 1 => ⟨by show (0 : Int) ≤ (0 : Int32).toInt; decide, by show (0 : Int32).toInt ≤ (80 : Int); decide⟩ | 2 => ⟨by show ((-2147483648) : Int) ≤ (0 : Int32).toInt; decide, by show (0 : Int32).toInt ≤ (2147483647 : Int); decide⟩ | 3 => ⟨by show ((-2147483648) : Int) ≤ ((-1) : Int32).toInt; decide, by show ((-1) : Int32).toInt ≤ (2147483647 : Int); decide⟩ | 4 => ⟨by show (0 : Int) ≤ (0 : Int32).toInt; decide, by show (0 : Int32).toInt ≤ (63 : Int); decide⟩ | 5 => ⟨by show (0 : Int) ≤ (0 : Int32).toInt; decide, by show (0 : Int32).toInt ≤ (63 : Int); decide⟩ | 6 => ⟨by show ((-2147483648) : Int) ≤ (0 : Int32).toInt; decide, by show (0 : Int32).toInt ≤ (2147483647 : Int); decide⟩ | 7 => ⟨by show ((-2147483648) : Int) ≤ (0 : Int32).toInt; decide, by show (0 : Int32).toInt ≤ (2147483647 : Int); decide⟩ | _ + 8 => ⟨(i32_rng _).1, (i32_rng _).2⟩
  | 14, _ => fun i => match i with | 0 => ⟨by show ((-2147483648) : Int) ≤ (0 : Int32).toInt; decide, by show (0 : Int32).toInt ≤ (2147483647 : Int); decide⟩ | 1 => ⟨by show ((-2147483648) : Int) ≤ (0 : Int32).toInt; decide, by show (0 : Int32).toInt ≤ (2147483647 : Int); decide⟩ | 2 => ⟨by show (0 : Int) ≤ (0 : Int32).toInt; decide, by show (0 : Int32).toInt ≤ (12 : Int); decide⟩ | 3 => ⟨by show (0 : Int) ≤ (0 : Int32).toInt; decide, by show (0 : Int32).toInt ≤ (4 : Int); decide⟩ | 4 => ⟨by show ((-2147483648) : Int) ≤ (0 : Int32).toInt; decide, by show (0 : Int32).toInt ≤ (2147483647 : Int); decide⟩ | 5 => ⟨by show ((-2147483648) : Int) ≤ (0 : Int32).toInt; decide, by show (0 : Int32).toInt ≤ (2147483647 : Int); decide⟩ | 6 => ⟨by show ((-2147483648) : Int) ≤ (0 : Int32).toInt; decide, by show (0 : Int32).toInt ≤ (2147483647 : Int); decide⟩ | 7 => ⟨by show ((-2147483648) : Int) ≤ (0 : Int32).toInt; decide, by show (0 : Int32).toInt ≤ (2147483647 : Int); decide⟩ | 8 => ⟨by show ((-2147483648) : Int) ≤ (0 : Int32).toInt; decide, by show (0 : Int32).toInt ≤ (2147483647 : Int); decide⟩ | _ + 9 => ⟨(i32_rng _).1, (i32_rng _).2⟩
  | 15, _ => fun _ => ⟨by show (0 : Int) ≤ (0 : Int32).toInt; decide, by show (0 : Int32).toInt ≤ (11 : Int); decide⟩
  | 16, _ => fun _ => ⟨by show (0 : Int) ≤ (0 : Int32).toInt; decide, by show (0 : Int32).toInt ≤ (11 : Int); decide⟩
  | 17, _ => fun _ => ⟨by show (0 : Int) ≤ (0 : Int32).toInt; decide, by show (0 : Int32).toInt ≤ (15984 : Int); decide⟩
  | 18, _ => fun i => match i with | 0 => ⟨by show ((-2147483648) : Int) ≤ (0 : Int32).toInt; decide, by show (0 : Int32).toInt ≤ (2147483647 : Int); decide⟩ | 1 => ⟨by show ((-2147483648) : Int) ≤ (0 : Int32).toInt; decide, by show (0 : Int32).toInt ≤ (2147483647 : Int); decide⟩ | 2 => ⟨by show ((-2147483648) : Int) ≤ (0 : Int32).toInt; decide, by show (0 : Int32).toInt ≤ (2147483647 : Int); decide⟩ | 3 => ⟨by show ((-2147483648) : Int) ≤ (0 : Int32).toInt; decide, by show (0 : Int32).toInt ≤ (2147483647 : Int); decide⟩ | 4 => ⟨by show ((-2147483648) : Int) ≤ (0 : Int32).toInt; decide, by show (0 : Int32).toInt ≤ (2147483647 : Int); decide⟩ | 5 => ⟨by show ((-2147483648) : Int) ≤ (0 : Int32).toInt; decide, by show (0 : Int32).toInt ≤ (2147483647 : Int); decide⟩ | 6 => ⟨by show ((-2147483648) : Int) ≤ (0 : Int32).toInt; decide, by show (0 : Int32).toInt ≤ (2147483647 : Int); decide⟩ | 7 => ⟨by show ((-2147483648) : Int) ≤ (0 : Int32).toInt; decide, by show (0 : Int32).toInt ≤ (2147483647 : Int); decide⟩ | 8 => ⟨by show ((-2147483648) : Int) ≤ (0 : Int32).toInt; decide, by show (0 : Int32).toInt ≤ (2147483647 : Int); decide⟩ | 9 => ⟨by show ((-2147483648) : Int) ≤ (0 : Int32).toInt; decide, by show (0 : Int32).toInt ≤ (2147483647 : Int); decide⟩ | 10 => ⟨by show ((-2147483648) : Int) ≤ (0 : Int32).toInt; decide, by show (0 : Int32).toInt ≤ (2147483647 : Int); decide⟩ | 11 => ⟨by show ((-2147483648) : Int) ≤ (0 : Int32).toInt; decide, by show (0 : Int32).toInt ≤ (2147483647 : Int); decide⟩ | _ + 12 => ⟨(i32_rng _).1, (i32_rng _).2⟩
  | 19, _ => fun _ => ⟨(i32_rng _).1, (i32_rng _).2⟩
  | 20, _ => fun _ => ⟨(i32_rng _).1, (i32_rng _).2⟩
  | 21, _ => fun _ => ⟨(i32_rng _).1, (i32_rng _).2⟩
  | 22, _ => fun _ => ⟨(i32_rng _).1, (i32_rng _).2⟩
  | 23, _ => fun _ => ⟨(i32_rng _).1, (i32_rng _).2⟩
  | 24, _ => fun _ => ⟨by show ((-2147483648) : Int) ≤ (0 : Int32).toInt; decide, by show (0 : Int32).toInt ≤ (2147483647 : Int); decide⟩
  | 25, _ => fun _ => ⟨by show ((-2147483648) : Int) ≤ (0 : Int32).toInt; decide, by show (0 : Int32).toInt ≤ (2147483647 : Int); decide⟩
  | 26, _ => fun _ => ⟨by show ((-2147483648) : Int) ≤ (0 : Int32).toInt; decide, by show (0 : Int32).toInt ≤ (2147483647 : Int); decide⟩
  | 27, _ => fun i => match i with | 0 => ⟨by show ((-2147483648) : Int) ≤ (0 : Int32).toInt; decide, by show (0 : Int32).toInt ≤ (2147483647 : Int); decide⟩ | 1 => ⟨by show (0 : Int) ≤ (0 : Int32).toInt; decide, by show (0 : Int32).toInt ≤ (5 : Int); decide⟩ | 2 => ⟨by show ((-2147483648) : Int) ≤ (0 : Int32).toInt; decide, by show (0 : Int32).toInt ≤ (2147483647 : Int); decide⟩ | 3 => ⟨by show (0 : Int) ≤ (0 : Int32).toInt; decide, by show (0 : Int32).toInt ≤ (5 : Int); decide⟩ | 4 => ⟨by show ((-2147483648) : Int) ≤ (0 : Int32).toInt; decide, by show (0 : Int32).toInt ≤ (2147483647 : Int); decide⟩ | 5 => ⟨by show ((-2147483648) : Int) ≤ (0 : Int32).toInt; decide, by show (0 : Int32).toInt ≤ (2147483647 : Int); decide⟩ | 6 => ⟨by show ((-2147483648) : Int) ≤ (0 : Int32).toInt; decide, by show (0 : Int32).toInt ≤ (2147483647 : Int); decide⟩ | 7 => ⟨by show ((-2147483648) : Int) ≤ (0 : Int32).toInt; decide, by show (0 : Int32).toInt ≤ (2147483647 : Int); decide⟩ | 8 => ⟨by show ((-2147483648) : Int) ≤ (0 : Int32).toInt; decide, by show (0 : Int32).toInt ≤ (2147483647 : Int); decide⟩ | 9 => ⟨by show ((-2147483648) : Int) ≤ (0 : Int32).toInt; decide, by show (0 : Int32).toInt ≤ (2147483647 : Int); decide⟩ | _ + 10 => ⟨(i32_rng _).1, (i32_rng _).2⟩
  | 28, _ => fun _ => ⟨by show (0 : Int) ≤ (0 : Int32).toInt; decide, by show (0 : Int32).toInt ≤ (11 : Int); decide⟩
  | 29, _ => fun _ => ⟨by show (0 : Int) ≤ (0 : Int32).toInt; decide, by show (0 : Int32).toInt ≤ (4 : Int); decide⟩
  | 30, _ => fun _ => ⟨(i32_rng _).1, (i32_rng _).2⟩
  | 31, _ => fun _ => ⟨by show ((-2147483648) : Int) ≤ (0 : Int32).toInt; decide, by show (0 : Int32).toInt ≤ (2147483647 : Int); decide⟩
  | 32, _ => fun i => match i with | 0 => ⟨by show ((-2147483648) : Int) ≤ (0 : Int32).toInt; decide, by show (0 : Int32).toInt ≤ (2147483647 : Int); decide⟩ | 1 => ⟨by show (0 : Int) ≤ (0 : Int32).toInt; decide, by show (0 : Int32).toInt ≤ (6 : Int); decide⟩ | 2 => ⟨by show ((-2147483648) : Int) ≤ ((-1) : Int32).toInt; decide, by show ((-1) : Int32).toInt ≤ (2147483647 : Int); decide⟩ | 3 => ⟨by show ((-2147483648) : Int) ≤ (0 : Int32).toInt; decide, by show (0 : Int32).toInt ≤ (2147483647 : Int); decide⟩ | 4 => ⟨by show ((-2147483648) : Int) ≤ (0 : Int32).toInt; decide, by show (0 : Int32).toInt ≤ (2147483647 : Int); decide⟩ | _ + 5 => ⟨(i32_rng _).1, (i32_rng _).2⟩
  | 33, _ => fun _ => ⟨by show ((-2147483648) : Int) ≤ (0 : Int32).toInt; decide, by show (0 : Int32).toInt ≤ (2147483647 : Int); decide⟩
  | 34, _ => fun _ => ⟨by show ((-2147483648) : Int) ≤ (0 : Int32).toInt; decide, by show (0 : Int32).toInt ≤ (2147483647 : Int); decide⟩
  | 35, _ => fun i => match i with | 0 => ⟨by show ((-2147483648) : Int) ≤ (0 : Int32).toInt; decide, by show (0 : Int32).toInt ≤ (2147483647 : Int); decide⟩ | 1 => ⟨by show (0 : Int) ≤ (0 : Int32).toInt; decide, by show (0 : Int32).toInt ≤ (1000 : Int); decide⟩ | 2 => ⟨by show (0 : Int) ≤ (0 : Int32).toInt; decide, by show (0 : Int32).toInt ≤ (6 : Int); decide⟩ | 3 => ⟨by show (0 : Int) ≤ (0 : Int32).toInt; decide, by show (0 : Int32).toInt ≤ (11 : Int); decide⟩ | 4 => ⟨by show (0 : Int) ≤ (0 : Int32).toInt; decide, by show (0 : Int32).toInt ≤ (8 : Int); decide⟩ | _ + 5 => ⟨(i32_rng _).1, (i32_rng _).2⟩
  | 36, _ => fun _ => ⟨by show (0 : Int) ≤ (0 : Int32).toInt; decide, by show (0 : Int32).toInt ≤ (71 : Int); decide⟩
  | 37, _ => fun i => match i with | 0 => ⟨by show ((-2147483648) : Int) ≤ (0 : Int32).toInt; decide, by show (0 : Int32).toInt ≤ (2147483647 : Int); decide⟩ | 1 => ⟨by show ((-2147483648) : Int) ≤ (0 : Int32).toInt; decide, by show (0 : Int32).toInt ≤ (2147483647 : Int); decide⟩ | 2 => ⟨by show ((-2147483648) : Int) ≤ (0 : Int32).toInt; decide, by show (0 : Int32).toInt ≤ (2147483647 : Int); decide⟩ | 3 => ⟨by show ((-2147483648) : Int) ≤ (0 : Int32).toInt; decide, by show (0 : Int32).toInt ≤ (2147483647 : Int); decide⟩ | _ + 4 => ⟨(i32_rng _).1, (i32_rng _).2⟩
  | 38, _ => fun _ => ⟨by show ((-1) : Int) ≤ ((-1) : Int32).toInt; decide, by show ((-1) : Int32).toInt ≤ (11 : Int); decide⟩
  | 39, _ => fun _ => ⟨by show ((-1) : Int) ≤ ((-1) : Int32).toInt; decide, by show ((-1) : Int32).toInt ≤ (4 : Int); decide⟩
  | 40, _ => fun _ => ⟨by show (0 : Int) ≤ (0 : Int32).toInt; decide, by show (0 : Int32).toInt ≤ (60 : Int); decide⟩
  | 41, _ => fun _ => ⟨(i32_rng _).1, (i32_rng _).2⟩
  | 42, _ => fun _ => ⟨(i32_rng _).1, (i32_rng _).2⟩
  | 43, _ => fun _ => ⟨by show (0 : Int) ≤ (0 : Int32).toInt; decide, by show (0 : Int32).toInt ≤ (0 : Int); decide⟩
  | k + 44, hk => absurd hk (by omega)
theorem bvT : ∀ i : Nat, loT 0 i ≤ ((match i with | 2 => 1 | 3 => 1 | _ => 0) : Int32).toInt ∧ ((match i with | 2 => 1 | 3 => 1 | _ => 0) : Int32).toInt ≤ hiT 0 i := fun i => match i with | 0 => ⟨by show ((-2147483648) : Int) ≤ (0 : Int32).toInt; decide, by show (0 : Int32).toInt ≤ (2147483647 : Int); decide⟩ | 1 => ⟨by show ((-2147483648) : Int) ≤ (0 : Int32).toInt; decide, by show (0 : Int32).toInt ≤ (2147483647 : Int); decide⟩ | 2 => ⟨by show (1 : Int) ≤ (1 : Int32).toInt; decide, by show (1 : Int32).toInt ≤ (4 : Int); decide⟩ | 3 => ⟨by show (1 : Int) ≤ (1 : Int32).toInt; decide, by show (1 : Int32).toInt ≤ (4 : Int); decide⟩ | 4 => ⟨by show (0 : Int) ≤ (0 : Int32).toInt; decide, by show (0 : Int32).toInt ≤ (2 : Int); decide⟩ | 5 => ⟨by show (0 : Int) ≤ (0 : Int32).toInt; decide, by show (0 : Int32).toInt ≤ (768 : Int); decide⟩ | 6 => ⟨by show (0 : Int) ≤ (0 : Int32).toInt; decide, by show (0 : Int32).toInt ≤ (80 : Int); decide⟩ | 7 => ⟨by show (0 : Int) ≤ (0 : Int32).toInt; decide, by show (0 : Int32).toInt ≤ (1 : Int); decide⟩ | 8 => ⟨by show ((-2147483648) : Int) ≤ (0 : Int32).toInt; decide, by show (0 : Int32).toInt ≤ (2147483647 : Int); decide⟩ | 9 => ⟨by show ((-2147483648) : Int) ≤ (0 : Int32).toInt; decide, by show (0 : Int32).toInt ≤ (2147483647 : Int); decide⟩ | 10 => ⟨by show ((-2147483648) : Int) ≤ (0 : Int32).toInt; decide, by show (0 : Int32).toInt ≤ (2147483647 : Int); decide⟩ | 11 => ⟨by show ((-2147483648) : Int) ≤ (0 : Int32).toInt; decide, by show (0 : Int32).toInt ≤ (2147483647 : Int); decide⟩ | 12 => ⟨by show ((-2147483648) : Int) ≤ (0 : Int32).toInt; decide, by show (0 : Int32).toInt ≤ (2147483647 : Int); decide⟩ | _ + 13 => ⟨(i32_rng _).1, (i32_rng _).2⟩
theorem bvTj : ∀ j : Nat, 1 ≤ j → j < 6 → ∀ i : Nat, loT j i ≤ (0 : Int32).toInt ∧ (0 : Int32).toInt ≤ hiT j i := fun j h1 h2 => match j, h1, h2 with
  | 1, _, _ => fun _ => ⟨by show (0 : Int) ≤ (0 : Int32).toInt; decide, by show (0 : Int32).toInt ≤ (16 : Int); decide⟩
  | 2, _, _ => fun _ => ⟨by show ((-2147483648) : Int) ≤ (0 : Int32).toInt; decide, by show (0 : Int32).toInt ≤ (2147483647 : Int); decide⟩
  | 3, _, _ => fun _ => ⟨by show ((-128) : Int) ≤ (0 : Int32).toInt; decide, by show (0 : Int32).toInt ≤ (127 : Int); decide⟩
  | 4, _, _ => fun _ => ⟨by show ((-1) : Int) ≤ (0 : Int32).toInt; decide, by show (0 : Int32).toInt ≤ (11 : Int); decide⟩
  | 5, _, _ => fun _ => ⟨by show (0 : Int) ≤ (0 : Int32).toInt; decide, by show (0 : Int32).toInt ≤ (999 : Int); decide⟩
  | 0, h1, _ => absurd h1 (by omega)
  | j + 6, _, h2 => absurd h2 (by omega)
theorem ivC0 : IvC 0 0 stC := by
  refine ⟨fun k i => ?_, fun b _ => Or.inl ?_, rfl⟩
  · show loC k i ≤ (sC k i).toInt ∧ (sC k i).toInt ≤ hiC k i
    by_cases h : k < 44
    · have := bvF k h i
      unfold loC hiC
      rw [if_pos h, if_pos h]; exact this
    · by_cases h2 : k < 182
      · have e : sC k i = 0 := by
          unfold sC
          rw [if_pos h2]
          split <;> first | rfl | omega
        rw [e]
        have z : (0 : Int32).toInt = 0 := rfl
        unfold loC hiC
        rw [if_neg h, if_neg h]
        by_cases r0 : k < 84
        · rw [if_pos r0, if_pos r0]; exact ⟨by decide, by decide⟩
        · rw [if_neg r0, if_neg r0]
          by_cases r1 : k < 96
          · rw [if_pos r1, if_pos r1]; exact ⟨by decide, by decide⟩
          · rw [if_neg r1, if_neg r1]
            by_cases r2 : k < 108
            · rw [if_pos r2, if_pos r2]; exact ⟨by decide, by decide⟩
            · rw [if_neg r2, if_neg r2]
              by_cases r3 : k < 120
              · rw [if_pos r3, if_pos r3]; exact ⟨by decide, by decide⟩
              · rw [if_neg r3, if_neg r3]
                by_cases r4 : k < 132
                · rw [if_pos r4, if_pos r4]; exact ⟨by decide, by decide⟩
                · rw [if_neg r4, if_neg r4]
                  by_cases r5 : k < 144
                  · rw [if_pos r5, if_pos r5]; exact ⟨by decide, by decide⟩
                  · rw [if_neg r5, if_neg r5]
                    by_cases r6 : k < 176
                    · rw [if_pos r6, if_pos r6]; exact ⟨by decide, by decide⟩
                    · rw [if_neg r6, if_neg r6]
                      by_cases r7 : k < 182
                      · rw [if_pos r7, if_pos r7]; exact ⟨by decide, by decide⟩
                      · rw [if_neg r7, if_neg r7]
                        exfalso; omega
      · obtain ⟨b, j, hj, rfl⟩ : ∃ b j, j < 6 ∧ k = 182 + 6 * b + j := ⟨(k - 182) / 6, (k - 182) % 6, Nat.mod_lt _ (by decide), by omega⟩
        rw [loC_t b j i hj, hiC_t b j i hj]
        unfold sC
        rw [if_neg (by omega), show (182 + 6 * b + j - 182) % 6 = j by omega]
        by_cases e : j = 0
        · subst e; rw [if_pos rfl]; exact bvT i
        · rw [if_neg e]; exact bvTj j (by omega) hj i
  · show (sC (182 + 6 * b) 5).toInt = 0
    unfold sC
    rw [if_neg (by omega), if_pos (by omega)]; rfl
theorem bvM0 : BvM stM := fun k => match k with
  | 0 => fun i => match i with | 0 => ⟨by show (0 : Int) ≤ (0 : Int32).toInt; decide, by show (0 : Int32).toInt ≤ (40 : Int); decide⟩ | 1 => ⟨by show ((-2147483648) : Int) ≤ (0 : Int32).toInt; decide, by show (0 : Int32).toInt ≤ (2147483647 : Int); decide⟩ | 2 => ⟨by show ((-2147483648) : Int) ≤ (0 : Int32).toInt; decide, by show (0 : Int32).toInt ≤ (2147483647 : Int); decide⟩ | 3 => ⟨by show (0 : Int) ≤ (0 : Int32).toInt; decide, by show (0 : Int32).toInt ≤ (12 : Int); decide⟩ | 4 => ⟨by show ((-2147483648) : Int) ≤ (0 : Int32).toInt; decide, by show (0 : Int32).toInt ≤ (2147483647 : Int); decide⟩ | 5 => ⟨by show ((-2147483648) : Int) ≤ (0 : Int32).toInt; decide, by show (0 : Int32).toInt ≤ (2147483647 : Int); decide⟩ | 6 => ⟨by show ((-2147483648) : Int) ≤ (0 : Int32).toInt; decide, by show (0 : Int32).toInt ≤ (2147483647 : Int); decide⟩ | 7 => ⟨by show ((-2147483648) : Int) ≤ (0 : Int32).toInt; decide, by show (0 : Int32).toInt ≤ (2147483647 : Int); decide⟩ | 8 => ⟨by show ((-2147483648) : Int) ≤ (0 : Int32).toInt; decide, by show (0 : Int32).toInt ≤ (2147483647 : Int); decide⟩ | 9 => ⟨by show (0 : Int) ≤ (0 : Int32).toInt; decide, by show (0 : Int32).toInt ≤ (10 : Int); decide⟩ | 10 => ⟨by show ((-2147483648) : Int) ≤ (0 : Int32).toInt; decide, by show (0 : Int32).toInt ≤ (2147483647 : Int); decide⟩ | 11 => ⟨by show ((-2147483648) : Int) ≤ (0 : Int32).toInt; decide, by show (0 : Int32).toInt ≤ (2147483647 : Int); decide⟩ | 12 => ⟨by show ((-2147483648) : Int) ≤ (0 : Int32).toInt; decide, by show (0 : Int32).toInt ≤ (2147483647 : Int); decide⟩ | 13 => ⟨by show ((-2147483648) : Int) ≤ (0 : Int32).toInt; decide, by show (0 : Int32).toInt ≤ (2147483647 : Int); decide⟩ | 14 => ⟨by show ((-2147483648) : Int) ≤ (0 : Int32).toInt; decide, by show (0 : Int32).toInt ≤ (2147483647 : Int); decide⟩ | 15 => ⟨by show ((-2147483648) : Int) ≤ (0 : Int32).toInt; decide, by show (0 : Int32).toInt ≤ (2147483647 : Int); decide⟩ | 16 => ⟨by show ((-2147483648) : Int) ≤ (0 : Int32).toInt; decide, by show (0 : Int32).toInt ≤ (2147483647 : Int); decide⟩ | 17 => ⟨by show ((-2147483648) : Int) ≤ (0 : Int32).toInt; decide, by show (0 : Int32).toInt ≤ (2147483647 : Int); decide⟩ | 18 => ⟨by show ((-2147483648) : Int) ≤ (0 : Int32).toInt; decide, by show (0 : Int32).toInt ≤ (2147483647 : Int); decide⟩ | 19 => ⟨by show ((-2147483648) : Int) ≤ (0 : Int32).toInt; decide, by show (0 : Int32).toInt ≤ (2147483647 : Int); decide⟩ | 20 => ⟨by show ((-2147483648) : Int) ≤ (0 : Int32).toInt; decide, by show (0 : Int32).toInt ≤ (2147483647 : Int); decide⟩ | 21 => ⟨by show ((-2147483648) : Int) ≤ (0 : Int32).toInt; decide, by show (0 : Int32).toInt ≤ (2147483647 : Int); decide⟩ | 22 => ⟨by show (0 : Int) ≤ (0 : Int32).toInt; decide, by show (0 : Int32).toInt ≤ (80 : Int); decide⟩ | 23 => ⟨by show ((-2147483648) : Int) ≤ (0 : Int32).toInt; decide, by show (0 : Int32).toInt ≤ (2147483647 : Int); decide⟩ | 24 => ⟨by show ((-2147483648) : Int) ≤ (0 : Int32).toInt; decide, by show (0 : Int32).toInt ≤ (2147483647 : Int); decide⟩ | 25 => ⟨by show ((-2147483648) : Int) ≤ (0 : Int32).toInt; decide, by show (0 : Int32).toInt ≤ (2147483647 : Int); decide⟩ | 26 => ⟨by show ((-2147483648) : Int) ≤ (0 : Int32).toInt; decide, by show (0 : Int32).toInt ≤ (2147483647 : Int); decide⟩ | 27 => ⟨by show ((-2147483648) : Int) ≤ (0 : Int32).toInt; decide, by show (0 : Int32).toInt ≤ (2147483647 : Int); decide⟩ | 28 => ⟨by show ((-2147483648) : Int) ≤ (0 : Int32).toInt; decide, by show (0 : Int32).toInt ≤ (2147483647 : Int); decide⟩ | 29 => ⟨by show ((-2147483648) : Int) ≤ (0 : Int32).toInt; decide, by show (0 : Int32).toInt ≤ (2147483647 : Int); decide⟩ | 30 => ⟨by show (0 : Int) ≤ (0 : Int32).toInt; decide, by show (0 : Int32).toInt ≤ (5 : Int); decide⟩ | 31 => ⟨by show ((-2147483648) : Int) ≤ (0 : Int32).toInt; decide, by show (0 : Int32).toInt ≤ (2147483647 : Int); decide⟩ | 32 => ⟨by show (0 : Int) ≤ (0 : Int32).toInt; decide, by show (0 : Int32).toInt ≤ (5 : Int); decide⟩ | 33 => ⟨by show ((-2147483648) : Int) ≤ (0 : Int32).toInt; decide, by show (0 : Int32).toInt ≤ (2147483647 : Int); decide⟩ | 34 => ⟨by show (0 : Int) ≤ (0 : Int32).toInt; decide, by show (0 : Int32).toInt ≤ (6 : Int); decide⟩ | 35 => ⟨by show ((-2147483648) : Int) ≤ (0 : Int32).toInt; decide, by show (0 : Int32).toInt ≤ (2147483647 : Int); decide⟩ | 36 => ⟨by show ((-1) : Int) ≤ ((-1) : Int32).toInt; decide, by show ((-1) : Int32).toInt ≤ (2147483647 : Int); decide⟩ | 37 => ⟨by show ((-2147483648) : Int) ≤ (0 : Int32).toInt; decide, by show (0 : Int32).toInt ≤ (2147483647 : Int); decide⟩ | 38 => ⟨by show (0 : Int) ≤ (0 : Int32).toInt; decide, by show (0 : Int32).toInt ≤ (1000 : Int); decide⟩ | 39 => ⟨by show ((-2147483648) : Int) ≤ (0 : Int32).toInt; decide, by show (0 : Int32).toInt ≤ (2147483647 : Int); decide⟩ | 40 => ⟨by show ((-2147483648) : Int) ≤ (0 : Int32).toInt; decide, by show (0 : Int32).toInt ≤ (2147483647 : Int); decide⟩ | 41 => ⟨by show ((-2147483648) : Int) ≤ (0 : Int32).toInt; decide, by show (0 : Int32).toInt ≤ (2147483647 : Int); decide⟩ | 42 => ⟨by show ((-2147483648) : Int) ≤ (0 : Int32).toInt; decide, by show (0 : Int32).toInt ≤ (2147483647 : Int); decide⟩ | 43 => ⟨by show ((-2147483648) : Int) ≤ (0 : Int32).toInt; decide, by show (0 : Int32).toInt ≤ (2147483647 : Int); decide⟩ | 44 => ⟨by show (0 : Int) ≤ (0 : Int32).toInt; decide, by show (0 : Int32).toInt ≤ (10 : Int); decide⟩ | 45 => ⟨by show (0 : Int) ≤ (0 : Int32).toInt; decide, by show (0 : Int32).toInt ≤ (80 : Int); decide⟩ | 46 => ⟨by show (0 : Int) ≤ (0 : Int32).toInt; decide, by show (0 : Int32).toInt ≤ (4 : Int); decide⟩ | 47 => ⟨by show (0 : Int) ≤ (0 : Int32).toInt; decide, by show (0 : Int32).toInt ≤ (1 : Int); decide⟩ | 48 => ⟨by show ((-2147483648) : Int) ≤ (0 : Int32).toInt; decide, by show (0 : Int32).toInt ≤ (2147483647 : Int); decide⟩ | 49 => ⟨by show ((-2147483648) : Int) ≤ (0 : Int32).toInt; decide, by show (0 : Int32).toInt ≤ (2147483647 : Int); decide⟩ | 50 => ⟨by show ((-2147483648) : Int) ≤ (0 : Int32).toInt; decide, by show (0 : Int32).toInt ≤ (2147483647 : Int); decide⟩ | 51 => ⟨by show (0 : Int) ≤ (0 : Int32).toInt; decide, by show (0 : Int32).toInt ≤ (16 : Int); decide⟩ | 52 => ⟨by show ((-2147483648) : Int) ≤ (0 : Int32).toInt; decide, by show (0 : Int32).toInt ≤ (2147483647 : Int); decide⟩ | 53 => ⟨by show (0 : Int) ≤ (0 : Int32).toInt; decide, by show (0 : Int32).toInt ≤ (12 : Int); decide⟩ | 54 => ⟨by show ((-2147483648) : Int) ≤ (0 : Int32).toInt; decide, by show (0 : Int32).toInt ≤ (2147483647 : Int); decide⟩ | 55 => ⟨by show (0 : Int) ≤ (0 : Int32).toInt; decide, by show (0 : Int32).toInt ≤ (4 : Int); decide⟩ | 56 => ⟨by show ((-2147483648) : Int) ≤ (0 : Int32).toInt; decide, by show (0 : Int32).toInt ≤ (2147483647 : Int); decide⟩ | 57 => ⟨by show ((-2147483648) : Int) ≤ (0 : Int32).toInt; decide, by show (0 : Int32).toInt ≤ (2147483647 : Int); decide⟩ | 58 => ⟨by show ((-2147483648) : Int) ≤ (0 : Int32).toInt; decide, by show (0 : Int32).toInt ≤ (2147483647 : Int); decide⟩ | _ + 59 => ⟨(i32_rng _).1, (i32_rng _).2⟩
  | 1 => fun _ => ⟨by show (0 : Int) ≤ (0 : Int32).toInt; decide, by show (0 : Int32).toInt ≤ (6 : Int); decide⟩
  | 2 => fun _ => ⟨by show (0 : Int) ≤ (0 : Int32).toInt; decide, by show (0 : Int32).toInt ≤ (255 : Int); decide⟩
  | 3 => fun _ => ⟨by show (0 : Int) ≤ (0 : Int32).toInt; decide, by show (0 : Int32).toInt ≤ (5 : Int); decide⟩
  | 4 => fun _ => ⟨by show (0 : Int) ≤ (0 : Int32).toInt; decide, by show (0 : Int32).toInt ≤ (8 : Int); decide⟩
  | 5 => fun _ => ⟨by show (0 : Int) ≤ (0 : Int32).toInt; decide, by show (0 : Int32).toInt ≤ (6 : Int); decide⟩
  | 6 => fun _ => ⟨by show ((-1) : Int) ≤ ((-1) : Int32).toInt; decide, by show ((-1) : Int32).toInt ≤ (9 : Int); decide⟩
  | 7 => fun _ => ⟨by show (0 : Int) ≤ (0 : Int32).toInt; decide, by show (0 : Int32).toInt ≤ (1 : Int); decide⟩
  | 8 => fun _ => ⟨by show (0 : Int) ≤ (0 : Int32).toInt; decide, by show (0 : Int32).toInt ≤ (4095 : Int); decide⟩
  | 9 => fun _ => ⟨by show ((-2147483648) : Int) ≤ (0 : Int32).toInt; decide, by show (0 : Int32).toInt ≤ (2147483647 : Int); decide⟩
  | 10 => fun _ => ⟨by show (0 : Int) ≤ (0 : Int32).toInt; decide, by show (0 : Int32).toInt ≤ (4 : Int); decide⟩
  | 11 => fun _ => ⟨by show (0 : Int) ≤ (0 : Int32).toInt; decide, by show (0 : Int32).toInt ≤ (4 : Int); decide⟩
  | 12 => fun _ => ⟨by show ((-49) : Int) ≤ (0 : Int32).toInt; decide, by show (0 : Int32).toInt ≤ (207 : Int); decide⟩
  | 13 => fun _ => ⟨by show (0 : Int) ≤ (0 : Int32).toInt; decide, by show (0 : Int32).toInt ≤ (80 : Int); decide⟩
  | 14 => fun _ => ⟨by show (0 : Int) ≤ (0 : Int32).toInt; decide, by show (0 : Int32).toInt ≤ (255 : Int); decide⟩
  | 15 => fun _ => ⟨by show (0 : Int) ≤ (0 : Int32).toInt; decide, by show (0 : Int32).toInt ≤ (16 : Int); decide⟩
  | 16 => fun _ => ⟨by show (0 : Int) ≤ (0 : Int32).toInt; decide, by show (0 : Int32).toInt ≤ (5 : Int); decide⟩
  | 17 => fun _ => ⟨by show ((-2147483648) : Int) ≤ (0 : Int32).toInt; decide, by show (0 : Int32).toInt ≤ (2147483647 : Int); decide⟩
  | 18 => fun _ => ⟨by show ((-1) : Int) ≤ (0 : Int32).toInt; decide, by show (0 : Int32).toInt ≤ (11 : Int); decide⟩
  | 19 => fun _ => ⟨by show (0 : Int) ≤ (0 : Int32).toInt; decide, by show (0 : Int32).toInt ≤ (255 : Int); decide⟩
  | 20 => fun _ => ⟨by show ((-2147483648) : Int) ≤ (0 : Int32).toInt; decide, by show (0 : Int32).toInt ≤ (2147483647 : Int); decide⟩
  | 21 => fun _ => ⟨by show ((-2147483648) : Int) ≤ (0 : Int32).toInt; decide, by show (0 : Int32).toInt ≤ (2147483647 : Int); decide⟩
  | 22 => fun _ => ⟨by show ((-2) : Int) ≤ ((-2) : Int32).toInt; decide, by show ((-2) : Int32).toInt ≤ (11 : Int); decide⟩
  | 23 => fun _ => ⟨by show ((-2147483648) : Int) ≤ (0 : Int32).toInt; decide, by show (0 : Int32).toInt ≤ (2147483647 : Int); decide⟩
  | 24 => fun _ => ⟨by show (0 : Int) ≤ (0 : Int32).toInt; decide, by show (0 : Int32).toInt ≤ (11 : Int); decide⟩
  | 25 => fun _ => ⟨by show ((-2147483648) : Int) ≤ (0 : Int32).toInt; decide, by show (0 : Int32).toInt ≤ (2147483647 : Int); decide⟩
  | 26 => fun _ => ⟨by show (0 : Int) ≤ (0 : Int32).toInt; decide, by show (0 : Int32).toInt ≤ (11 : Int); decide⟩
  | 27 => fun _ => ⟨by show (0 : Int) ≤ (0 : Int32).toInt; decide, by show (0 : Int32).toInt ≤ (4 : Int); decide⟩
  | 28 => fun _ => ⟨by show ((-2147483648) : Int) ≤ (0 : Int32).toInt; decide, by show (0 : Int32).toInt ≤ (2147483647 : Int); decide⟩
  | 29 => fun _ => ⟨by show (0 : Int) ≤ (0 : Int32).toInt; decide, by show (0 : Int32).toInt ≤ (71 : Int); decide⟩
  | 30 => fun _ => ⟨by show ((-1) : Int) ≤ ((-1) : Int32).toInt; decide, by show ((-1) : Int32).toInt ≤ (11 : Int); decide⟩
  | 31 => fun _ => ⟨by show ((-1) : Int) ≤ ((-1) : Int32).toInt; decide, by show ((-1) : Int32).toInt ≤ (4 : Int); decide⟩
  | 32 => fun _ => ⟨by show (0 : Int) ≤ (0 : Int32).toInt; decide, by show (0 : Int32).toInt ≤ (60 : Int); decide⟩
  | 33 => fun _ => ⟨by show (0 : Int) ≤ (0 : Int32).toInt; decide, by show (0 : Int32).toInt ≤ (0 : Int); decide⟩
  | 34 => fun _ => ⟨by show (0 : Int) ≤ (0 : Int32).toInt; decide, by show (0 : Int32).toInt ≤ (255 : Int); decide⟩
  | 35 => fun _ => ⟨by show (0 : Int) ≤ (0 : Int32).toInt; decide, by show (0 : Int32).toInt ≤ (11 : Int); decide⟩
  | 36 => fun _ => ⟨by show (0 : Int) ≤ (0 : Int32).toInt; decide, by show (0 : Int32).toInt ≤ (11 : Int); decide⟩
  | 37 => fun _ => ⟨by show ((-2147483648) : Int) ≤ (0 : Int32).toInt; decide, by show (0 : Int32).toInt ≤ (2147483647 : Int); decide⟩
  | 38 => fun _ => ⟨by show (0 : Int) ≤ (0 : Int32).toInt; decide, by show (0 : Int32).toInt ≤ (4095 : Int); decide⟩
  | 39 => fun _ => ⟨by show (0 : Int) ≤ (0 : Int32).toInt; decide, by show (0 : Int32).toInt ≤ (4 : Int); decide⟩
  | _ + 40 => fun _ => ⟨(i32_rng _).1, (i32_rng _).2⟩
theorem ivM0 : IvM 0 stM := by
  have nb : ∀ k : Nat, (0 : Int).toNat.testBit k = true → False := fun k h => by rw [show (0 : Int).toNat = 0 from rfl, Nat.zero_testBit] at h; exact absurd h (by decide)
  refine ⟨bvM0, fun k hk => ?_, fun t ht => ?_, fun k => ?_, fun i => Or.inr rfl, Or.inl rfl⟩
  · have : (stM.1 0 3).toInt = 0 := rfl
    exfalso; omega
  · have z : (stM.1 0 9).toInt = 0 := rfl
    have e : t = 10 := by omega
    subst e
    have s8 : (stM.1 8 10).toInt = 0 := rfl
    refine ⟨⟨⟨by rw [s8]; decide, by rw [s8]; decide⟩, fun k _ hb => ?_⟩, fun k _ hb => ?_, Or.inl s8⟩
    · rw [s8] at hb; exact (nb k hb).elim
    · rw [s8] at hb; exact (nb k hb).elim
  · show (-1 : Int32).toInt < (0 : Int32).toInt
    decide
end
section
theorem nT_ne {σ : S2} {b k : Nat} (h : k < 182 + 6 * b ∨ 182 + 6 * b + 6 ≤ k) : (nT σ b).1 k = σ.1 k := by
  show (if k < 182 + 6 * b then σ.1 k else if k = 182 + 6 * b then _ else if k < 182 + 6 * b + 6 then _ else σ.1 k) = _
  rcases h with h | h
  · rw [if_pos h]
  · rw [if_neg (by omega), if_neg (by omega), if_neg (by omega)]
theorem nT_0 {σ : S2} {b : Nat} : (nT σ b).1 (182 + 6 * b) = tabI := by
  show (if 182 + 6 * b < 182 + 6 * b then _ else if 182 + 6 * b = 182 + 6 * b then _ else _) = _
  rw [if_neg (by omega), if_pos rfl]
theorem nT_j {σ : S2} {b j : Nat} (h0 : 1 ≤ j) (h1 : j < 6) : (nT σ b).1 (182 + 6 * b + j) = (fun _ => 0) := by
  show (if 182 + 6 * b + j < 182 + 6 * b then _ else if 182 + 6 * b + j = 182 + 6 * b then _ else if 182 + 6 * b + j < 182 + 6 * b + 6 then _ else _) = _
  rw [if_neg (by omega), if_neg (by omega), if_pos (by omega)]
theorem ivC_nT {τ b : Nat} {σ : S2} (h : IvC 0 τ σ) : IvC 0 τ (nT σ b) := by
  refine ⟨fun k i => ?_, fun b' hb' => ?_, ?_⟩
  · by_cases h1 : k < 182 + 6 * b ∨ 182 + 6 * b + 6 ≤ k
    · rw [nT_ne h1]; exact h.1 k i
    · obtain ⟨j, hj, rfl⟩ : ∃ j, j < 6 ∧ k = 182 + 6 * b + j := ⟨k - (182 + 6 * b), by omega, by omega⟩
      rw [loC_t b j i hj, hiC_t b j i hj]
      by_cases e : j = 0
      · subst e
        show loT 0 i ≤ ((nT σ b).1 (182 + 6 * b) i).toInt ∧ ((nT σ b).1 (182 + 6 * b) i).toInt ≤ hiT 0 i
        rw [nT_0]; exact bvT i
      · rw [nT_j (by omega) hj]; exact bvTj j (by omega) hj i
  · by_cases e : b' = b
    · subst e; left; rw [nT_0]; rfl
    · rw [nT_ne (by omega), nT_ne (by omega), nT_ne (by omega)]; exact h.2.1 b' hb'
  · rw [nT_ne (Or.inl (by omega))]; exact h.2.2
theorem ivC_cnt {τ : Nat} {σ : S2} {x : Int32} (h : IvC 0 τ σ) (hx : x.toInt = (σ.1 0 6).toInt + 1) (h10 : τ < 10) : IvC 0 (τ + 1) (ux_wI σ 0 6 x) := by
  have hc := h.2.2
  refine ⟨h.1.wI (show (0 : Int) ≤ x.toInt by omega) (show x.toInt ≤ 10 by omega), fun b hb => ?_, ?_⟩
  · rw [ux_wI_ne (by rintro ⟨q, _⟩; omega)]
    rcases h.2.1 b hb with e | e
    · exact Or.inl e
    · refine Or.inr (fun p hp => ?_)
      rw [ux_wI_ne (by rintro ⟨q, _⟩; omega), ux_wI_ne (by rintro ⟨q, _⟩; omega)]; exact e p hp
  · rw [ux_wI_eq]; omega
theorem tabRest_ok {τ : Nat} {σ : S2} {x2 : Int32} (hI : IvC 0 τ σ) (h10 : τ < 10) : Ok (fun z => IvC 0 (τ + z.2.1) z.2.2 ∧ z.2.1 ≤ 1) (tabRest τ σ x2) := by
  have one : (1 : Int32).toInt = 1 := rfl
  unfold tabRest
  refine ok_bs (sX8_takeAll τ (τ + 1) 0 σ hI) (fun r1 σ2 h2 => ?_)
  refine ok_bs (sX8_seatAll τ (τ + 1) σ2 x2 h2) (fun r4 σ5 h5 => ?_)
  have h5 : IvC 0 τ σ5 := h5
  have hc := h5.2.2
  have en := i32_nat (i := (σ5.1 0 6)) (by omega)
  refine ok_ck (by omega) (by omega) ?_
  rw [if_pos (by omega)]
  refine ok_nm (fun σ7 h7 => ok_some ?_)
  refine ⟨?_, Nat.le_refl _⟩
  show IvC 0 (τ + 1) σ7
  rw [h7]
  exact ivC_cnt h5 (by rw [i32_add (by omega) (by omega), one]) h10
theorem sX11_table {τ : Nat} {σ : S2} {a1 a2 : Int32} (hI : IvC 0 τ σ) : Ok (fun z => IvC 0 (τ + z.2.1) z.2.2 ∧ z.2.1 ≤ 1) (fX11_table τ σ a1 a2) := by
  have e10 : (10 : Int32).toInt = 10 := rfl
  have z0 : (0 : Int32).toInt = 0 := rfl
  have back : ∀ (v : Int32) (σ' : S2), IvC 0 τ σ' → Ok (fun z : Int32 × Nat × S2 => IvC 0 (τ + z.2.1) z.2.2 ∧ z.2.1 ≤ 1) (some (v, 0, σ')) := fun v σ' h => ok_some ⟨h, Nat.zero_le _⟩
  unfold fX11_table fX11_table_0
  refine ok_nm (fun v1 _ => ?_)
  refine ok_eq (fun _ => back _ _ hI) (fun _ => ?_)
  refine ok_eq (fun _ => ?_) (fun _ => back _ _ hI)
  refine ok_lt (fun hlt => ?_) (fun _ => back _ _ hI)
  have hc := hI.2.2
  refine ok_bs (sX8_takeMembers τ 0 σ a1 hI) (fun r2 σ3 h3 => ?_)
  have h3 : IvC 0 τ σ3 := h3
  refine ok_bs (sX8_takeLaw τ 0 2 80 σ3 (σ3.1 1 1) h3 ByC.a2 (by decide)) (fun r5 σ6 h6 => ?_)
  have h6 : IvC 0 τ σ6 := h6
  refine ok_nm (fun σ8 h8 => ?_)
  have hI8 : IvC 0 τ σ8 := by rw [h8]; exact h6.wF (by decide) (by omega) (show (0 : Int) ≤ (0 : Int32).toInt by decide) (show (0 : Int32).toInt ≤ 80 by decide)
  refine ok_bs (sX3_workOut τ σ8 hI8) (fun r9 σ10 h10 => ?_)
  have h10 : IvC 0 τ σ10 := h10
  refine ok_eq (fun _ => ?_) (fun _ => back _ _ h10)
  unfold tabNew
  exact tabRest_ok (ivC_nT h10) (by omega)
end
section
set_option maxHeartbeats 4000000 in
set_option maxRecDepth 100000 in
theorem tab_rest (l : Launch) (dC : Nat → ClassId) (dI : Nat → Nat → Nat) (cy : Nat → ClassId) (ad : Nat → Nat) (τ nb : Nat) (hτ : τ < nb) (hnb : nb = τ + 2) (ad0 : Nat → Nat) (had : ∀ k, k < 182 + 6 * (τ + 1) → ad k = ad0 k) {p : Program} {e : Env} {s : State} {m : MethodId} {args : Array Value} {below : List Frame} {meth : Method} {c : Code} {H : Heap} {locs : List Loc} {ls : Array Slot} {A : Nat → Prop} {σ σ9 : S2} {x2 r0 : Int32} {δ : Nat} (hx : p.tables.exec = Jvm.exec) (hb : c.code = cX11_table) (hml : c.maxLocals = 6) (hr : meth.sig.returnType = some .int) (hlocks : meth.locks = false) (hown : s.vm.findClass RX11 = some m.cls) (hts : ∀ w ∈ wsX11_table, w.before args s = true) (hK : va_K (dC, dI) vwCl (tyl cy) s) (hN : NW s) (hP : va_P (dC, dI) vwCl (wG (cC cy ad τ) ad (182 + 6 * nb) σ) H) (hD : va_D A (wG (cC cy ad τ) ad (182 + 6 * nb) σ)) (hS : va_S A s.heap H locs) (hA : ∀ q : Nat, s.heap.size ≤ q → A q) (hl : lv_has ls 6 [(0, .ref (ad 0)), (2, .int x2), (5, .ref (ad (182 + 6 * (τ + 1))))]) (h : tabRest τ σ x2 = some (r0, δ, σ9)) : W p l e (headSpec wsX11_table ({ frames := 30, cells := 6, slots := 2117, locals := 738 })).room s m args below meth c H locs 6 2117 (MQ below (QT dC dI cy ad0 τ (τ + 1) r0 δ σ9 A) args s 6 2117 A) (F0 m 117 ls []) := by
  unfold tabRest at h
  refine lv_aload hx hb dX11_table_117 (lv_at hl 2 rfl) ?_
  refine lv_aload_n hx hb dX11_table_119 rfl (lv_at hl 0 rfl) ?_
  refine ux_get (D := (dC, dI)) (ci := 11) (v := .ref (ad 182)) (C := RX11) (T := TX11) (M := 13) (fs := (oSR ad (σ.1 0))) hx hb hts (fun _ h9 => List.mem_cons_of_mem _ (List.mem_append_left _ (List.mem_append_left _ (List.mem_append_left _ (List.mem_append_left _ (List.mem_append_right _ h9)))))) hown hK hP 0 (Nat.lt_of_lt_of_le (Nat.le_of_ble_eq_true rfl : 0 < 182) (Nat.le_add_right _ _)) (cC_0 _ _ _ _ _) rfl 7 (by decide) (hts (.fieldLink RX11 57 "SeatsRound" "draft" "LSeatsRound$Table;") (List.mem_of_getElem? (i := 4) rfl)) (fun _ h9 => h9) rfl dX11_table_120 ?_
  obtain ⟨r1, σ2, hf3, h⟩ := bsS h
  refine ux_callv (va_runV (As := [.ref (ad 182)]) (rest := []) ⟨hx, hb, hml, hown, hts⟩ (tX8_takeAll l dC dI cy ad τ nb hτ (τ + 1) (by omega) 0 (by omega) σ H.size r1 σ2 hf3) (cwV 1 hts gX11_table_X8_takeAll rfl rfl rfl (by decide +kernel) ⟨Nat.le_of_ble_eq_true rfl, Nat.le_of_ble_eq_true rfl⟩) (wp_V hK hN hP hD (va_recv hK hP (ci := 8) (q0 := (182 + 6 * (τ + 1))) rfl (wG_of (by omega) (cC_t0 _ _ _ _ _ (τ + 1))))) rfl rfl hl.1 rfl (lv_room (Nat.le_of_ble_eq_true rfl)) dX11_table_123 ⟨Nat.le_of_ble_eq_true rfl, Nat.le_of_ble_eq_true rfl⟩) hD hS hA (fun H locs hP hD hS => ?_)
  refine lv_aload hx hb dX11_table_126 (lv_at hl 2 rfl) ?_
  refine lv_iload_n hx hb dX11_table_128 rfl (lv_at hl 1 rfl) ?_
  obtain ⟨r4, σ5, hf6, h⟩ := bsS h
  refine ux_callv (va_runV (As := [.int x2]) (rest := []) ⟨hx, hb, hml, hown, hts⟩ (tX8_seatAll l dC dI cy ad τ nb hτ (τ + 1) (by omega) σ2 x2 H.size r4 σ5 hf6) (cwV 1 hts gX11_table_X8_seatAll rfl rfl rfl (by decide +kernel) ⟨Nat.le_of_ble_eq_true rfl, Nat.le_of_ble_eq_true rfl⟩) (wp_V hK hN hP hD (va_recv hK hP (ci := 8) (q0 := (182 + 6 * (τ + 1))) rfl (wG_of (by omega) (cC_t0 _ _ _ _ _ (τ + 1))))) rfl rfl hl.1 rfl (lv_room (Nat.le_of_ble_eq_true rfl)) dX11_table_129 ⟨Nat.le_of_ble_eq_true rfl, Nat.le_of_ble_eq_true rfl⟩) hD hS hA (fun H locs hP hD hS => ?_)
  refine lv_aload_n hx hb dX11_table_132 rfl (lv_at hl 0 rfl) ?_
  refine ux_get (D := (dC, dI)) (ci := 11) (v := .ref (ad 42)) (C := RX11) (T := TX11) (M := 13) (fs := (oSR ad (σ5.1 0))) hx hb hts (fun _ h9 => List.mem_cons_of_mem _ (List.mem_append_left _ (List.mem_append_left _ (List.mem_append_left _ (List.mem_append_left _ (List.mem_append_right _ h9)))))) hown hK hP 0 (Nat.lt_of_lt_of_le (Nat.le_of_ble_eq_true rfl : 0 < 182) (Nat.le_add_right _ _)) (cC_0 _ _ _ _ _) rfl 5 (by decide) (hts (.fieldLink RX11 48 "SeatsRound" "tables" "[LSeatsRound$Table;") (List.mem_of_getElem? (i := 12) rfl)) (fun _ h9 => h9) rfl dX11_table_133 ?_
  refine lv_aload_n hx hb dX11_table_136 rfl (lv_at hl 0 rfl) ?_
  refine ux_get (D := (dC, dI)) (ci := 11) (v := .int (σ5.1 0 6)) (C := RX11) (T := TX11) (M := 13) (fs := (oSR ad (σ5.1 0))) hx hb hts (fun _ h9 => List.mem_cons_of_mem _ (List.mem_append_left _ (List.mem_append_left _ (List.mem_append_left _ (List.mem_append_left _ (List.mem_append_right _ h9)))))) hown hK hP 0 (Nat.lt_of_lt_of_le (Nat.le_of_ble_eq_true rfl : 0 < 182) (Nat.le_add_right _ _)) (cC_0 _ _ _ _ _) rfl 6 (by decide) (hts (.fieldLink RX11 52 "SeatsRound" "tableCount" "I") (List.mem_of_getElem? (i := 3) rfl)) (fun _ h9 => h9) rfl dX11_table_137 ?_
  refine lv_aload hx hb dX11_table_140 (lv_at hl 2 rfl) ?_
  obtain ⟨hi9, h⟩ := ckS h
  have hc9 : Int32.toNatClampNeg (σ5.1 0 6) = τ := by
    by_cases q9 : Int32.toNatClampNeg (σ5.1 0 6) = τ
    · exact q9
    · rw [if_neg q9] at h; cases h
  rw [if_pos hc9] at h
  refine va_astq hx hb hK hP hD hS 42 8 (182 + 6 * (τ + 1)) 8 (wG_of (Nat.lt_of_lt_of_le (Nat.le_of_ble_eq_true rfl : 42 < 182) (Nat.le_add_right _ _)) (cC_42 _ _ _ _ _)) rfl (wG_of (by omega) (cC_t0 _ _ _ _ _ (τ + 1))) rfl hi9 dX11_table_142 (fun H locs hP hD hS => ?_)
  have hP := tb_astP hc9 (by omega) hP
  have hD := tb_astD hc9 (by omega) hD
  refine lv_aload_n hx hb dX11_table_143 rfl (lv_at hl 0 rfl) ?_
  refine lv_dup hx hb dX11_table_144 rfl ?_
  refine ux_get (D := (dC, dI)) (ci := 11) (v := .int (σ5.1 0 6)) (C := RX11) (T := TX11) (M := 13) (fs := (oSR ad (σ5.1 0))) hx hb hts (fun _ h9 => List.mem_cons_of_mem _ (List.mem_append_left _ (List.mem_append_left _ (List.mem_append_left _ (List.mem_append_left _ (List.mem_append_right _ h9)))))) hown hK hP 0 (Nat.lt_of_lt_of_le (Nat.le_of_ble_eq_true rfl : 0 < 182) (Nat.le_add_right _ _)) (cC_0 _ _ _ _ _) rfl 6 (by decide) (hts (.fieldLink RX11 52 "SeatsRound" "tableCount" "I") (List.mem_of_getElem? (i := 3) rfl)) (fun _ h9 => h9) rfl dX11_table_145 ?_
  refine lv_iconst (v := 1) hx hb dX11_table_148 (by decide) ?_
  refine lv_iadd hx hb dX11_table_149 ?_
  refine ux_put (D := (dC, dI)) (ci := 11) (C := RX11) (T := TX11) (M := 13) (fs := (oSR ad (σ5.1 0))) hx hb hts (fun _ h9 => List.mem_cons_of_mem _ (List.mem_append_left _ (List.mem_append_left _ (List.mem_append_left _ (List.mem_append_left _ (List.mem_append_right _ h9)))))) tyX11 tyX11_ok nmX11 hown hK hP hD hS 0 (Nat.lt_of_lt_of_le (Nat.le_of_ble_eq_true rfl : 0 < 182) (Nat.le_add_right _ _)) (cC_0 _ _ _ _ _) rfl 6 (by decide) (hts (.fieldLink RX11 52 "SeatsRound" "tableCount" "I") (List.mem_of_getElem? (i := 3) rfl)) (fun _ h9 => h9) rfl (tyX11_ok 6 (by decide)) rfl rfl (Nat.le_of_ble_eq_true rfl) (oC_0_6 _ _ _ _ _ _) h dX11_table_150 (fun σ7 H locs h hP hD hS => ?_)
  refine lv_aload_n hx hb dX11_table_153 rfl (lv_at hl 0 rfl) ?_
  refine ux_get (D := (dC, dI)) (ci := 11) (v := .int (σ7.1 0 6)) (C := RX11) (T := TX11) (M := 13) (fs := (oSR ad (σ7.1 0))) hx hb hts (fun _ h9 => List.mem_cons_of_mem _ (List.mem_append_left _ (List.mem_append_left _ (List.mem_append_left _ (List.mem_append_left _ (List.mem_append_right _ h9)))))) hown hK hP 0 (Nat.lt_of_lt_of_le (Nat.le_of_ble_eq_true rfl : 0 < 182) (Nat.le_add_right _ _)) (cC_0 _ _ _ _ _) rfl 6 (by decide) (hts (.fieldLink RX11 52 "SeatsRound" "tableCount" "I") (List.mem_of_getElem? (i := 3) rfl)) (fun _ h9 => h9) rfl dX11_table_154 ?_
  refine lv_iconst (v := 1) hx hb dX11_table_157 (by decide) ?_
  refine lv_isub hx hb dX11_table_158 ?_
  subst hnb
  exact ux_iretU had hx hb hr h hP hD hS hlocks dX11_table_159
end
section
set_option maxHeartbeats 4000000 in
set_option maxRecDepth 100000 in
theorem tab_new (l : Launch) (dC : Nat → ClassId) (dI : Nat → Nat → Nat) (cy : Nat → ClassId) (ad : Nat → Nat) (τ nb : Nat) (hτ : τ < nb) (hnb : nb = τ + 1) {p : Program} {e : Env} {s : State} {m : MethodId} {args : Array Value} {below : List Frame} {meth : Method} {c : Code} {H : Heap} {locs : List Loc} {ls : Array Slot} {A : Nat → Prop} {σ σ9 : S2} {x2 r0 : Int32} {δ : Nat} (hx : p.tables.exec = Jvm.exec) (hb : c.code = cX11_table) (hml : c.maxLocals = 6) (hr : meth.sig.returnType = some .int) (hlocks : meth.locks = false) (hown : s.vm.findClass RX11 = some m.cls) (hts : ∀ w ∈ wsX11_table, w.before args s = true) (hK : va_K (dC, dI) vwCl (tyl cy) s) (hN : NW s) (hP : va_P (dC, dI) vwCl (wG (cC cy ad τ) ad (182 + 6 * nb) σ) H) (hD : va_D A (wG (cC cy ad τ) ad (182 + 6 * nb) σ)) (hS : va_S A s.heap H locs) (hA : ∀ q : Nat, s.heap.size ≤ q → A q) (hl : lv_has ls 6 [(0, .ref (ad 0)), (2, .int x2)]) (h : tabNew τ σ x2 = some (r0, δ, σ9)) : W p l e (headSpec wsX11_table ({ frames := 30, cells := 6, slots := 2117, locals := 738 })).room s m args below meth c H locs 0 0 (MQ below (QT dC dI cy ad τ nb r0 δ σ9 A) args s 6 2117 A) (F0 m 108 ls []) := by
  subst hnb
  refine va_new (ci := 8) (fs := [.int 0, .int 0, .int 0, .int 0, .int 0, .int 0, .int 0, .int 0, .null, .null, .null, .null, .null]) (C := RX8) (T := TX8) (N := 13) hx hb hts (fun _ h9 => List.mem_cons_of_mem _ (List.mem_append_left _ (List.mem_append_right _ h9))) tyX8 tyX8_ok hown (hts (.classLink RX11 46 RX8) (List.mem_of_getElem? (i := 9) rfl)) (hts (.instantiable RX8 13) (List.mem_of_getElem? (i := 10) rfl)) (hts (.initialized RX8) (List.mem_of_getElem? (i := 11) rfl)) hK hP hD hS hA rfl (fun j hj => vz_dfX8 j hj) (Nat.le_of_ble_eq_true rfl) (Nat.le_of_ble_eq_true rfl) dX11_table_108 (fun q H hP hD hS => ?_)
  refine W.widen (k := 1) (n := 13) (Nat.le_of_ble_eq_true rfl) (Nat.le_of_ble_eq_true rfl) ?_
  refine lv_dup hx hb dX11_table_111 rfl ?_
  have hP := tb_swP hP
  have hD := tb_swD hD
  have hPc := tb_lP hP
  have hDc := tb_lD hD
  have hFc := fr_A hDc hS hA
  refine va_callv (va_runIN (As := []) (rest := [.ref q]) ⟨hx, hb, hml, hown, hts⟩ (i_Table l dC dI cy q H.size) ⟨va_cnB 0 hts gX11_table_X8_init_n56 rfl rfl rfl (hN.1 _ (List.mem_of_getElem? (i := 4) rfl)) (hts (.initialized RX8) (List.mem_of_getElem? (i := 11) rfl)) (by decide +kernel) ⟨Nat.le_of_ble_eq_true rfl, Nat.le_of_ble_eq_true rfl⟩, rfl, (hts (.instanceMethod yX8_init) (List.mem_of_getElem? (i := 115) rfl))⟩ (wp_S hK hN hPc hDc) rfl rfl hl.1 rfl (lv_room (Nat.le_of_ble_eq_true rfl)) dX11_table_112 ⟨Nat.le_of_ble_eq_true rfl, Nat.le_of_ble_eq_true rfl⟩) hS (fun q _ h => hFc q h) hFc (fun u t H1 locs ht hvm hw hB hz1 hk1 hS => ?_)
  obtain ⟨hP1, hD1⟩ := hB
  rw [ht] at hP1
  obtain ⟨hP, hD⟩ := tb_fj hP hD hk1 hFc hP1 hD1
  generalize H1 = H at hP hS ⊢
  have hP := tb_swP hP
  have hD := tb_swD hD
  rw [tb_ext cy ad τ (τ + 1) hτ q u σ] at hP hD
  have hq : adT ad (τ + 1) q u (182 + 6 * (τ + 1)) = q := by
    unfold adT
    rw [if_neg (by omega), if_pos rfl]
  have h0 : adT ad (τ + 1) q u 0 = ad 0 := by
    unfold adT
    rw [if_pos (by omega)]
  refine W.widen (k := 6) (n := 2117) (Nat.le_of_ble_eq_true rfl) (Nat.le_of_ble_eq_true rfl) ?_
  refine lv_astore (lv' := [(5, .ref q), (0, .ref (ad 0)), (2, .int x2)]) hx hb dX11_table_115 hl (by decide) rfl (fun ls hl => ?_)
  refine tab_rest l dC dI cy (adT ad (τ + 1) q u) τ (τ + 1 + 1) (by omega) rfl ad (fun k hk => ?_) hx hb hml hr hlocks hown hts hK hN hP hD hS hA ?_ h
  · unfold adT
    rw [if_pos hk]
  · rw [hq, h0]; exact lv_sub hl [1, 2, 0] rfl
set_option maxHeartbeats 4000000 in
set_option maxRecDepth 100000 in
theorem tX11_table (l : Launch) (dC : Nat → ClassId) (dI : Nat → Nat → Nat) (cy : Nat → ClassId) (ad : Nat → Nat) (τ nb : Nat) (hτ : τ < nb) (hnb : nb = τ + 1) (σ : S2) (a1 : Int32) (a2 : Int32) (sz : Nat) (r0 : Int32) (δ : Nat) (σ9 : S2) (h : fX11_table τ σ a1 a2 = some (r0, δ, σ9)) : Met l yX11_table wsX11_table ({ frames := 30, cells := 6, slots := 2117, locals := 738 }) (va_Pc [.ref (ad 0), .int a1, .int a2] (wPre (dC, dI) cy (wG (cC cy ad τ) ad (182 + 6 * nb) σ) sz)) (QT dC dI cy ad τ nb r0 δ σ9 (va_A (wG (cC cy ad τ) ad (182 + 6 * nb) σ) sz)) 6 2117 (va_A (wG (cC cy ad τ) ad (182 + 6 * nb) σ) sz) := by
  refine Met.ofW (cc := cX11_table) (maxL := 6) (ret := (some .int)) (by decide) rfl ?_
  intro p e s m args below meth c s₁ B hml hv
  obtain ⟨rfl, hsz, hP, hK, hD0, hN⟩ := hv
  have hx := B.exec
  have hb := B.bytes
  have hr := B.returns
  have hts := atoms_spec (ws := wsX11_table) B.pre
  have hown : s.vm.findClass RX11 = some m.cls := findClass_of_methodNamed B.named
  have hlocks := B.notSynchronized
  subst hsz
  have hD := hD0.self (sz := s.heap.size)
  generalize hAe : va_A (wG (cC cy ad τ) ad (182 + 6 * nb) σ) s.heap.size = A at hD ⊢
  have hA : ∀ q : Nat, s.heap.size ≤ q → A q := fun q h => by rw [← hAe]; exact Or.inr h
  have hS : va_S A s.heap s.heap [] := va_S.rf
  have hl := lv_entry ([.ref (ad 0), .int a1, .int a2]) (n := 6) (Nat.le_of_ble_eq_true rfl)
  rw [lg_entry_eq]
  generalize (lg_sl ([.ref (ad 0), .int a1, .int a2]) ++ List.replicate (6 - (lg_sl ([.ref (ad 0), .int a1, .int a2])).length) Slot.unset).toArray = ls at hl ⊢
  have hl : lv_has ls 6 [(0, .ref (ad 0)), (1, .int a1), (2, .int a2)] := hl
  unfold fX11_table at h
  clear hAe hD0
  suffices HH : ∀ (H : Heap) (locs : List Loc) (ls : Array Slot), fX11_table_0 τ σ a1 a2 = some (r0, δ, σ9) → va_P (dC, dI) vwCl (wG (cC cy ad τ) ad (182 + 6 * nb) σ) H → va_D A (wG (cC cy ad τ) ad (182 + 6 * nb) σ) → va_S A s.heap H locs → lv_has ls 6 [(0, .ref (ad 0)), (1, .int a1), (2, .int a2)] → W p l e (headSpec wsX11_table ({ frames := 30, cells := 6, slots := 2117, locals := 738 })).room s m (#[.ref (ad 0), .int a1, .int a2]) below meth c H locs 0 0 (MQ below (QT dC dI cy ad τ nb r0 δ σ9 A) (#[.ref (ad 0), .int a1, .int a2]) s 6 2117 A) (F0 m 0 ls []) from HH s.heap [] ls h hP hD hS hl
  have w0 : ∀ (σ : S2) (x1 : Int32) (x2 : Int32) (H : Heap) (locs : List Loc) (ls : Array Slot), fX11_table_0 τ σ x1 x2 = some (r0, δ, σ9) → va_P (dC, dI) vwCl (wG (cC cy ad τ) ad (182 + 6 * nb) σ) H → va_D A (wG (cC cy ad τ) ad (182 + 6 * nb) σ) → va_S A s.heap H locs → lv_has ls 6 [(0, .ref (ad 0)), (1, .int x1), (2, .int x2)] → W p l e (headSpec wsX11_table ({ frames := 30, cells := 6, slots := 2117, locals := 738 })).room s m (#[.ref (ad 0), .int a1, .int a2]) below meth c H locs 0 0 (MQ below (QT dC dI cy ad τ nb r0 δ σ9 A) (#[.ref (ad 0), .int a1, .int a2]) s 6 2117 A) (F0 m 0 ls []) := by
    intro σ x1 x2 H locs ls h hP hD hS hl
    unfold fX11_table_0 at h
    refine lv_iconst (v := 1) hx hb dX11_table_0 (by decide) ?_
    refine lv_aload_n hx hb dX11_table_1 rfl (lv_at hl 0 rfl) ?_
    refine ux_get (D := (dC, dI)) (ci := 11) (v := .ref (ad 7)) (C := RX11) (T := TX11) (M := 13) (fs := (oSR ad (σ.1 0))) hx hb hts (fun _ h9 => List.mem_cons_of_mem _ (List.mem_append_left _ (List.mem_append_left _ (List.mem_append_left _ (List.mem_append_left _ (List.mem_append_right _ h9)))))) hown hK hP 0 (Nat.lt_of_lt_of_le (Nat.le_of_ble_eq_true rfl : 0 < 182) (Nat.le_add_right _ _)) (cC_0 _ _ _ _ _) rfl 2 (by decide) (hts (.fieldLink RX11 26 "SeatsRound" "keepers" "LSeatsRound$Keepers;") (List.mem_of_getElem? (i := 1) rfl)) (fun _ h9 => h9) rfl dX11_table_2 ?_
    refine ux_get (D := (dC, dI)) (ci := 2) (v := .int (σ.1 7 5)) (C := RX2) (T := TX2) (M := 6) (fs := (oKP ad (σ.1 7))) hx hb hts (fun _ h9 => List.mem_cons_of_mem _ (List.mem_append_left _ (List.mem_append_left _ (List.mem_append_left _ (List.mem_append_right _ h9))))) hown hK hP 7 (Nat.lt_of_lt_of_le (Nat.le_of_ble_eq_true rfl : 7 < 182) (Nat.le_add_right _ _)) (cC_7 _ _ _ _ _) rfl 5 (by decide) (hts (.fieldLink RX11 134 "SeatsRound$Keepers" "count" "I") (List.mem_of_getElem? (i := 2) rfl)) (fun _ h9 => h9) rfl dX11_table_5 ?_
    refine lv_ishl hx hb dX11_table_8 ?_
    refine lv_iconst (v := 1) hx hb dX11_table_9 (by decide) ?_
    refine lv_isub hx hb dX11_table_10 ?_
    refine lv_topi (fun v1 ev1 => ?_)
    have h := nmS h ev1
    refine lv_istore_n (lv' := [(3, .int v1), (0, .ref (ad 0)), (1, .int x1), (2, .int x2)]) hx hb dX11_table_11 rfl hl (by decide) rfl (fun ls hl => ?_)
    have hl := lv_sub hl [1, 2, 3, 0] (l' := [(0, .ref (ad 0)), (1, .int x1), (2, .int x2), (3, .int v1)]) rfl
    change W _ _ _ _ _ _ _ _ _ _ _ _ _ _ _ (F0 m 12 ls [])
    refine lv_iload_n hx hb dX11_table_12 rfl (lv_at hl 1 rfl) ?_
    refine lv_if_eq (tgt := 24) hx hb dX11_table_13 (by decide) (fun hcd => ?_) (fun hcd => ?_)
    · have h := cdP hcd h
      refine lv_iconst (v := (-1)) hx hb dX11_table_24 (by decide) ?_
      exact ux_iretT hx hb hr h hP hD hS hlocks dX11_table_25
    · have h := cdN hcd h
      refine lv_iload_n hx hb dX11_table_16 rfl (lv_at hl 1 rfl) ?_
      refine lv_iload_n hx hb dX11_table_17 rfl (lv_at hl 3 rfl) ?_
      refine lv_iconst (v := (-1)) hx hb dX11_table_18 (by decide) ?_
      refine lv_ixor hx hb dX11_table_19 ?_
      refine lv_iand hx hb dX11_table_20 ?_
      refine lv_if_eq (tgt := 26) hx hb dX11_table_21 (by decide) (fun hcd => ?_) (fun hcd => ?_)
      · have h := cdP hcd h
        refine lv_aload_n hx hb dX11_table_26 rfl (lv_at hl 0 rfl) ?_
        refine ux_get (D := (dC, dI)) (ci := 11) (v := .int (σ.1 0 6)) (C := RX11) (T := TX11) (M := 13) (fs := (oSR ad (σ.1 0))) hx hb hts (fun _ h9 => List.mem_cons_of_mem _ (List.mem_append_left _ (List.mem_append_left _ (List.mem_append_left _ (List.mem_append_left _ (List.mem_append_right _ h9)))))) hown hK hP 0 (Nat.lt_of_lt_of_le (Nat.le_of_ble_eq_true rfl : 0 < 182) (Nat.le_add_right _ _)) (cC_0 _ _ _ _ _) rfl 6 (by decide) (hts (.fieldLink RX11 52 "SeatsRound" "tableCount" "I") (List.mem_of_getElem? (i := 3) rfl)) (fun _ h9 => h9) rfl dX11_table_27 ?_
        refine lv_bipush (v := 10) hx hb dX11_table_30 (by decide) ?_
        refine lv_icmp_lt (tgt := 38) hx hb dX11_table_32 (by decide) (fun hcd => ?_) (fun hcd => ?_)
        · have h := cdP hcd h
          refine lv_aload_n hx hb dX11_table_38 rfl (lv_at hl 0 rfl) ?_
          refine ux_get (D := (dC, dI)) (ci := 11) (v := .ref (ad 182)) (C := RX11) (T := TX11) (M := 13) (fs := (oSR ad (σ.1 0))) hx hb hts (fun _ h9 => List.mem_cons_of_mem _ (List.mem_append_left _ (List.mem_append_left _ (List.mem_append_left _ (List.mem_append_left _ (List.mem_append_right _ h9)))))) hown hK hP 0 (Nat.lt_of_lt_of_le (Nat.le_of_ble_eq_true rfl : 0 < 182) (Nat.le_add_right _ _)) (cC_0 _ _ _ _ _) rfl 7 (by decide) (hts (.fieldLink RX11 57 "SeatsRound" "draft" "LSeatsRound$Table;") (List.mem_of_getElem? (i := 4) rfl)) (fun _ h9 => h9) rfl dX11_table_39 ?_
          refine lv_iload_n hx hb dX11_table_42 rfl (lv_at hl 1 rfl) ?_
          refine lv_aload_n hx hb dX11_table_43 rfl (lv_at hl 0 rfl) ?_
          refine ux_get (D := (dC, dI)) (ci := 11) (v := .ref (ad 7)) (C := RX11) (T := TX11) (M := 13) (fs := (oSR ad (σ.1 0))) hx hb hts (fun _ h9 => List.mem_cons_of_mem _ (List.mem_append_left _ (List.mem_append_left _ (List.mem_append_left _ (List.mem_append_left _ (List.mem_append_right _ h9)))))) hown hK hP 0 (Nat.lt_of_lt_of_le (Nat.le_of_ble_eq_true rfl : 0 < 182) (Nat.le_add_right _ _)) (cC_0 _ _ _ _ _) rfl 2 (by decide) (hts (.fieldLink RX11 26 "SeatsRound" "keepers" "LSeatsRound$Keepers;") (List.mem_of_getElem? (i := 1) rfl)) (fun _ h9 => h9) rfl dX11_table_44 ?_
          obtain ⟨r2, σ3, hf4, h⟩ := bsS h
          refine ux_callv (va_runV (As := [.int x1, .ref (ad 7)]) (rest := []) ⟨hx, hb, hml, hown, hts⟩ (tX8_takeMembers l dC dI cy ad τ nb hτ 0 (by omega) σ x1 H.size r2 σ3 hf4) (cwV 2 hts gX11_table_X8_takeMembers rfl rfl rfl (by decide +kernel) ⟨Nat.le_of_ble_eq_true rfl, Nat.le_of_ble_eq_true rfl⟩) (wp_V hK hN hP hD (va_recv hK hP (ci := 8) (q0 := 182) rfl (wG_of (by omega) (cC_t0 _ _ _ _ _ 0)))) rfl rfl hl.1 rfl (lv_room (Nat.le_of_ble_eq_true rfl)) dX11_table_47 ⟨Nat.le_of_ble_eq_true rfl, Nat.le_of_ble_eq_true rfl⟩) hD hS hA (fun H locs hP hD hS => ?_)
          refine lv_aload_n hx hb dX11_table_50 rfl (lv_at hl 0 rfl) ?_
          refine ux_get (D := (dC, dI)) (ci := 11) (v := .ref (ad 182)) (C := RX11) (T := TX11) (M := 13) (fs := (oSR ad (σ3.1 0))) hx hb hts (fun _ h9 => List.mem_cons_of_mem _ (List.mem_append_left _ (List.mem_append_left _ (List.mem_append_left _ (List.mem_append_left _ (List.mem_append_right _ h9)))))) hown hK hP 0 (Nat.lt_of_lt_of_le (Nat.le_of_ble_eq_true rfl : 0 < 182) (Nat.le_add_right _ _)) (cC_0 _ _ _ _ _) rfl 7 (by decide) (hts (.fieldLink RX11 57 "SeatsRound" "draft" "LSeatsRound$Table;") (List.mem_of_getElem? (i := 4) rfl)) (fun _ h9 => h9) rfl dX11_table_51 ?_
          refine lv_aload_n hx hb dX11_table_54 rfl (lv_at hl 0 rfl) ?_
          refine ux_get (D := (dC, dI)) (ci := 11) (v := .ref (ad 1)) (C := RX11) (T := TX11) (M := 13) (fs := (oSR ad (σ3.1 0))) hx hb hts (fun _ h9 => List.mem_cons_of_mem _ (List.mem_append_left _ (List.mem_append_left _ (List.mem_append_left _ (List.mem_append_left _ (List.mem_append_right _ h9)))))) hown hK hP 0 (Nat.lt_of_lt_of_le (Nat.le_of_ble_eq_true rfl : 0 < 182) (Nat.le_add_right _ _)) (cC_0 _ _ _ _ _) rfl 0 (by decide) (hts (.fieldLink RX11 10 "SeatsRound" "tape" "LSeatsRound$Tape;") (List.mem_of_getElem? (i := 5) rfl)) (fun _ h9 => h9) rfl dX11_table_55 ?_
          refine ux_get (D := (dC, dI)) (ci := 9) (v := .ref (ad 2)) (C := RX9) (T := TX9) (M := 2) (fs := (oTP ad (σ3.1 1))) hx hb hts (fun _ h9 => List.mem_cons_of_mem _ (List.mem_append_left _ (List.mem_append_left _ (List.mem_append_right _ h9)))) hown hK hP 1 (Nat.lt_of_lt_of_le (Nat.le_of_ble_eq_true rfl : 1 < 182) (Nat.le_add_right _ _)) (cC_1 _ _ _ _ _) rfl 0 (by decide) (hts (.fieldLink RX11 109 "SeatsRound$Tape" "bytes" "[B") (List.mem_of_getElem? (i := 6) rfl)) (fun _ h9 => h9) rfl dX11_table_58 ?_
          refine lv_aload_n hx hb dX11_table_61 rfl (lv_at hl 0 rfl) ?_
          refine ux_get (D := (dC, dI)) (ci := 11) (v := .ref (ad 1)) (C := RX11) (T := TX11) (M := 13) (fs := (oSR ad (σ3.1 0))) hx hb hts (fun _ h9 => List.mem_cons_of_mem _ (List.mem_append_left _ (List.mem_append_left _ (List.mem_append_left _ (List.mem_append_left _ (List.mem_append_right _ h9)))))) hown hK hP 0 (Nat.lt_of_lt_of_le (Nat.le_of_ble_eq_true rfl : 0 < 182) (Nat.le_add_right _ _)) (cC_0 _ _ _ _ _) rfl 0 (by decide) (hts (.fieldLink RX11 10 "SeatsRound" "tape" "LSeatsRound$Tape;") (List.mem_of_getElem? (i := 5) rfl)) (fun _ h9 => h9) rfl dX11_table_62 ?_
          refine ux_get (D := (dC, dI)) (ci := 9) (v := .int (σ3.1 1 1)) (C := RX9) (T := TX9) (M := 2) (fs := (oTP ad (σ3.1 1))) hx hb hts (fun _ h9 => List.mem_cons_of_mem _ (List.mem_append_left _ (List.mem_append_left _ (List.mem_append_right _ h9)))) hown hK hP 1 (Nat.lt_of_lt_of_le (Nat.le_of_ble_eq_true rfl : 1 < 182) (Nat.le_add_right _ _)) (cC_1 _ _ _ _ _) rfl 1 (by decide) (hts (.fieldLink RX11 102 "SeatsRound$Tape" "length" "I") (List.mem_of_getElem? (i := 7) rfl)) (fun _ h9 => h9) rfl dX11_table_65 ?_
          change W _ _ _ _ _ _ _ _ _ _ _ _ _ _ _ (F0 m 68 ls [.int (σ3.1 1 1), .ref (ad 2), .ref (ad 182)])
          obtain ⟨r5, σ6, hf7, h⟩ := bsS h
          refine ux_callv (va_runV (As := [.ref (ad 2), .int (σ3.1 1 1)]) (rest := []) ⟨hx, hb, hml, hown, hts⟩ (tX8_takeLaw l dC dI cy ad τ nb hτ 0 (by omega) 2 80 (Nat.lt_of_lt_of_le (Nat.le_of_ble_eq_true rfl : 2 < 182) (Nat.le_add_right _ _)) (fun _ _ => (cC_2 _ _ _ _ _)) σ3 (σ3.1 1 1) H.size r5 σ6 hf7) (cwV 2 hts gX11_table_X8_takeLaw rfl rfl rfl (by decide +kernel) ⟨Nat.le_of_ble_eq_true rfl, Nat.le_of_ble_eq_true rfl⟩) (wp_V hK hN hP hD (va_recv hK hP (ci := 8) (q0 := 182) rfl (wG_of (by omega) (cC_t0 _ _ _ _ _ 0)))) rfl rfl hl.1 rfl (lv_room (Nat.le_of_ble_eq_true rfl)) dX11_table_68 ⟨Nat.le_of_ble_eq_true rfl, Nat.le_of_ble_eq_true rfl⟩) hD hS hA (fun H locs hP hD hS => ?_)
          refine lv_aload_n hx hb dX11_table_71 rfl (lv_at hl 0 rfl) ?_
          refine ux_get (D := (dC, dI)) (ci := 11) (v := .ref (ad 1)) (C := RX11) (T := TX11) (M := 13) (fs := (oSR ad (σ6.1 0))) hx hb hts (fun _ h9 => List.mem_cons_of_mem _ (List.mem_append_left _ (List.mem_append_left _ (List.mem_append_left _ (List.mem_append_left _ (List.mem_append_right _ h9)))))) hown hK hP 0 (Nat.lt_of_lt_of_le (Nat.le_of_ble_eq_true rfl : 0 < 182) (Nat.le_add_right _ _)) (cC_0 _ _ _ _ _) rfl 0 (by decide) (hts (.fieldLink RX11 10 "SeatsRound" "tape" "LSeatsRound$Tape;") (List.mem_of_getElem? (i := 5) rfl)) (fun _ h9 => h9) rfl dX11_table_72 ?_
          refine lv_iconst (v := 0) hx hb dX11_table_75 (by decide) ?_
          refine ux_put (D := (dC, dI)) (ci := 9) (C := RX9) (T := TX9) (M := 2) (fs := (oTP ad (σ6.1 1))) hx hb hts (fun _ h9 => List.mem_cons_of_mem _ (List.mem_append_left _ (List.mem_append_left _ (List.mem_append_right _ h9)))) tyX9 tyX9_ok nmX9 hown hK hP hD hS 1 (Nat.lt_of_lt_of_le (Nat.le_of_ble_eq_true rfl : 1 < 182) (Nat.le_add_right _ _)) (cC_1 _ _ _ _ _) rfl 1 (by decide) (hts (.fieldLink RX11 102 "SeatsRound$Tape" "length" "I") (List.mem_of_getElem? (i := 7) rfl)) (fun _ h9 => h9) rfl (tyX9_ok 1 (by decide)) rfl rfl (Nat.le_of_ble_eq_true rfl) (oC_1_1 _ _ _ _ _ _) h dX11_table_76 (fun σ8 H locs h hP hD hS => ?_)
          refine lv_aload_n hx hb dX11_table_79 rfl (lv_at hl 0 rfl) ?_
          refine ux_get (D := (dC, dI)) (ci := 11) (v := .ref (ad 13)) (C := RX11) (T := TX11) (M := 13) (fs := (oSR ad (σ8.1 0))) hx hb hts (fun _ h9 => List.mem_cons_of_mem _ (List.mem_append_left _ (List.mem_append_left _ (List.mem_append_left _ (List.mem_append_left _ (List.mem_append_right _ h9)))))) hown hK hP 0 (Nat.lt_of_lt_of_le (Nat.le_of_ble_eq_true rfl : 0 < 182) (Nat.le_add_right _ _)) (cC_0 _ _ _ _ _) rfl 3 (by decide) (hts (.fieldLink RX11 33 "SeatsRound" "law" "LSeatsRound$Law;") (List.mem_of_getElem? (i := 8) rfl)) (fun _ h9 => h9) rfl dX11_table_80 ?_
          refine lv_aload_n hx hb dX11_table_83 rfl (lv_at hl 0 rfl) ?_
          refine ux_get (D := (dC, dI)) (ci := 11) (v := .ref (ad 182)) (C := RX11) (T := TX11) (M := 13) (fs := (oSR ad (σ8.1 0))) hx hb hts (fun _ h9 => List.mem_cons_of_mem _ (List.mem_append_left _ (List.mem_append_left _ (List.mem_append_left _ (List.mem_append_left _ (List.mem_append_right _ h9)))))) hown hK hP 0 (Nat.lt_of_lt_of_le (Nat.le_of_ble_eq_true rfl : 0 < 182) (Nat.le_add_right _ _)) (cC_0 _ _ _ _ _) rfl 7 (by decide) (hts (.fieldLink RX11 57 "SeatsRound" "draft" "LSeatsRound$Table;") (List.mem_of_getElem? (i := 4) rfl)) (fun _ h9 => h9) rfl dX11_table_84 ?_
          refine lv_aload_n hx hb dX11_table_87 rfl (lv_at hl 0 rfl) ?_
          refine ux_get (D := (dC, dI)) (ci := 11) (v := .ref (ad 7)) (C := RX11) (T := TX11) (M := 13) (fs := (oSR ad (σ8.1 0))) hx hb hts (fun _ h9 => List.mem_cons_of_mem _ (List.mem_append_left _ (List.mem_append_left _ (List.mem_append_left _ (List.mem_append_left _ (List.mem_append_right _ h9)))))) hown hK hP 0 (Nat.lt_of_lt_of_le (Nat.le_of_ble_eq_true rfl : 0 < 182) (Nat.le_add_right _ _)) (cC_0 _ _ _ _ _) rfl 2 (by decide) (hts (.fieldLink RX11 26 "SeatsRound" "keepers" "LSeatsRound$Keepers;") (List.mem_of_getElem? (i := 1) rfl)) (fun _ h9 => h9) rfl dX11_table_88 ?_
          obtain ⟨r9, σ10, hf11, h⟩ := bsS h
          refine ux_calli (va_runV (As := [.ref (ad 182), .ref (ad 7)]) (rest := []) ⟨hx, hb, hml, hown, hts⟩ (tX3_workOut l dC dI cy ad τ nb hτ σ8 H.size r9 σ10 hf11) (cwV 2 hts gX11_table_X3_workOut rfl rfl rfl (by decide +kernel) ⟨Nat.le_of_ble_eq_true rfl, Nat.le_of_ble_eq_true rfl⟩) (wp_V hK hN hP hD (va_recv hK hP (ci := 3) (q0 := 13) rfl (wG_of (Nat.lt_of_lt_of_le (Nat.le_of_ble_eq_true rfl : 13 < 182) (Nat.le_add_right _ _)) (cC_13 _ _ _ _ _)))) rfl rfl hl.1 rfl (lv_room (Nat.le_of_ble_eq_true rfl)) dX11_table_91 ⟨Nat.le_of_ble_eq_true rfl, Nat.le_of_ble_eq_true rfl⟩) hD hS hA (fun H locs hP hD hS => ?_)
          refine lv_istore (lv' := [(4, .int r9), (0, .ref (ad 0)), (1, .int x1), (2, .int x2), (3, .int v1)]) hx hb dX11_table_94 hl (by decide) rfl (fun ls hl => ?_)
          have hl := lv_sub hl [1, 2, 3, 4, 0] (l' := [(0, .ref (ad 0)), (1, .int x1), (2, .int x2), (3, .int v1), (4, .int r9)]) rfl
          refine lv_iload hx hb dX11_table_96 (lv_at hl 4 rfl) ?_
          refine lv_iconst (v := (-1)) hx hb dX11_table_98 (by decide) ?_
          refine lv_icmp_eq (tgt := 108) hx hb dX11_table_99 (by decide) (fun hcd => ?_) (fun hcd => ?_)
          · have h := cdP hcd h
            exact tab_new l dC dI cy ad τ nb hτ hnb hx hb hml hr hlocks hown hts hK hN hP hD hS hA (lv_sub hl [0, 2] rfl) h
          · have h := cdN hcd h
            refine lv_bipush (v := (-100)) hx hb dX11_table_102 (by decide) ?_
            refine lv_iload hx hb dX11_table_104 (lv_at hl 4 rfl) ?_
            refine lv_isub hx hb dX11_table_106 ?_
            exact ux_iretT hx hb hr h hP hD hS hlocks dX11_table_107
        · have h := cdN hcd h
          refine lv_bipush (v := (-3)) hx hb dX11_table_35 (by decide) ?_
          exact ux_iretT hx hb hr h hP hD hS hlocks dX11_table_37
      · have h := cdN hcd h
        refine lv_iconst (v := (-1)) hx hb dX11_table_24 (by decide) ?_
        exact ux_iretT hx hb hr h hP hD hS hlocks dX11_table_25
  intro H locs ls h hP hD hS hl
  exact w0 σ a1 a2 H locs ls h hP hD hS (lv_sub hl [0, 1, 2] rfl)
end
