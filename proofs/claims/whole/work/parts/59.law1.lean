theorem GD.pa {f : Nat → Int32} {n : Nat} {en v : Int32} (hn : n ≤ 4) (h : GD f n) : GD (s_putf f n (s_plPA en) (s_okPA en v) v) (s_putn n (s_okPA en v)) := by
  unfold s_plPA
  by_cases c : en = nI 1
  · rw [if_pos c]; exact h.put hn (by decide) (fun z _ h => h.u2 (iv_of z.2 (by decide) (by decide)))
  · rw [if_neg c]; exact h.put hn (by decide) (fun z _ h => h.u1 (iv_of z.2 (by decide) (by decide)))
theorem L_L_X4_setClearance : LnkV RL 13 yX4_setClearance cX4_setClearance 3 (some .int) 1 := ⟨w_228, w_229, w_230, w_55, w_231, ⟨by decide +kernel, by decide +kernel⟩, by decide +kernel⟩
theorem L_L_X5_setClearance : LnkV RL 17 yX5_setClearance cX5_setClearance 2 (some .int) 1 := ⟨w_658, w_659, w_660, w_60, w_661, ⟨by decide +kernel, by decide +kernel⟩, by decide +kernel⟩
theorem L_L_X4_setPistonArea : LnkV RL 18 yX4_setPistonArea cX4_setPistonArea 4 (some .int) 2 := ⟨w_259, w_260, w_261, w_55, w_262, ⟨by decide +kernel, by decide +kernel⟩, by decide +kernel⟩
theorem L_L_X5_setPistonArea : LnkV RL 22 yX5_setPistonArea cX5_setPistonArea 3 (some .int) 2 := ⟨w_674, w_675, w_676, w_60, w_677, ⟨by decide +kernel, by decide +kernel⟩, by decide +kernel⟩
theorem L_L_X4_setStroke : LnkV RL 23 yX4_setStroke cX4_setStroke 3 (some .int) 1 := ⟨w_270, w_271, w_272, w_55, w_273, ⟨by decide +kernel, by decide +kernel⟩, by decide +kernel⟩
theorem L_L_X5_setStroke : LnkV RL 26 yX5_setStroke cX5_setStroke 2 (some .int) 1 := ⟨w_681, w_682, w_683, w_60, w_684, ⟨by decide +kernel, by decide +kernel⟩, by decide +kernel⟩
theorem L_L_X4_setBoilerPressure : LnkV RL 27 yX4_setBoilerPressure cX4_setBoilerPressure 3 (some .int) 1 := ⟨w_274, w_275, w_276, w_55, w_277, ⟨by decide +kernel, by decide +kernel⟩, by decide +kernel⟩
theorem L_L_X5_setBoilerPressure : LnkV RL 30 yX5_setBoilerPressure cX5_setBoilerPressure 2 (some .int) 1 := ⟨w_685, w_686, w_687, w_60, w_688, ⟨by decide +kernel, by decide +kernel⟩, by decide +kernel⟩
theorem L_L_X4_setBackPressure : LnkV RL 31 yX4_setBackPressure cX4_setBackPressure 3 (some .int) 1 := ⟨w_278, w_279, w_280, w_55, w_281, ⟨by decide +kernel, by decide +kernel⟩, by decide +kernel⟩
theorem L_L_X5_setBackPressure : LnkV RL 34 yX5_setBackPressure cX5_setBackPressure 2 (some .int) 1 := ⟨w_689, w_690, w_691, w_60, w_692, ⟨by decide +kernel, by decide +kernel⟩, by decide +kernel⟩
theorem L_L_X4_setFinding : LnkV RL 35 yX4_setFinding cX4_setFinding 4 (some .int) 2 := ⟨w_282, w_283, w_284, w_55, w_285, ⟨by decide +kernel, by decide +kernel⟩, by decide +kernel⟩
theorem L_L_X5_setFinding : LnkV RL 38 yX5_setFinding cX5_setFinding 4 (some .int) 2 := ⟨w_693, w_694, w_695, w_60, w_696, ⟨by decide +kernel, by decide +kernel⟩, by decide +kernel⟩
theorem L_L_X4_setValves : LnkV RL 39 yX4_setValves cX4_setValves 7 (some .int) 5 := ⟨w_286, w_287, w_288, w_55, w_289, ⟨by decide +kernel, by decide +kernel⟩, by decide +kernel⟩
theorem L_L_X5_setValves : LnkV RL 43 yX5_setValves cX5_setValves 7 (some .int) 5 := ⟨w_697, w_698, w_699, w_60, w_700, ⟨by decide +kernel, by decide +kernel⟩, by decide +kernel⟩
theorem L_L_X4_valve : LnkV RL 44 yX4_valve cX4_valve 3 (some .int) 2 := ⟨w_297, w_298, w_299, w_55, w_300, ⟨by decide +kernel, by decide +kernel⟩, by decide +kernel⟩
theorem L_L_X5_valve : LnkV RL 47 yX5_valve cX5_valve 3 (some .int) 2 := ⟨w_701, w_702, w_703, w_60, w_704, ⟨by decide +kernel, by decide +kernel⟩, by decide +kernel⟩
theorem L_L_X4_beginCard : LnkV RL 48 yX4_beginCard cX4_beginCard 4 (some .int) 2 := ⟨w_308, w_309, w_310, w_55, w_311, ⟨by decide +kernel, by decide +kernel⟩, by decide +kernel⟩
theorem L_L_X5_beginCard : LnkV RL 51 yX5_beginCard cX5_beginCard 5 (some .int) 2 := ⟨w_705, w_706, w_707, w_60, w_708, ⟨by decide +kernel, by decide +kernel⟩, by decide +kernel⟩
theorem L_L_X4_setPoint : LnkV RL 52 yX4_setPoint cX4_setPoint 5 (some .int) 3 := ⟨w_319, w_320, w_321, w_55, w_322, ⟨by decide +kernel, by decide +kernel⟩, by decide +kernel⟩
theorem L_L_X5_setPoint : LnkV RL 56 yX5_setPoint cX5_setPoint 4 (some .int) 3 := ⟨w_709, w_710, w_711, w_60, w_712, ⟨by decide +kernel, by decide +kernel⟩, by decide +kernel⟩
theorem L_L_X4_finishCard : LnkV RL 57 yX4_finishCard cX4_finishCard 3 (some .int) 0 := ⟨w_337, w_338, w_339, w_55, w_340, ⟨by decide +kernel, by decide +kernel⟩, by decide +kernel⟩
theorem L_L_X5_finishCard : LnkV RL 61 yX5_finishCard cX5_finishCard 2 (some .int) 0 := ⟨w_717, w_718, w_719, w_60, w_720, ⟨by decide +kernel, by decide +kernel⟩, by decide +kernel⟩
theorem L_L_X4_addIdealCard : LnkV RL 62 yX4_addIdealCard cX4_addIdealCard 6 (some .int) 4 := ⟨w_361, w_362, w_363, w_55, w_364, ⟨by decide +kernel, by decide +kernel⟩, by decide +kernel⟩
theorem L_L_X5_addIdealCard : LnkV RL 66 yX5_addIdealCard cX5_addIdealCard 9 (some .int) 4 := ⟨w_739, w_740, w_741, w_60, w_742, ⟨by decide +kernel, by decide +kernel⟩, by decide +kernel⟩
theorem L_L_X4_removeCard : LnkV RL 67 yX4_removeCard cX4_removeCard 2 (some .int) 1 := ⟨w_387, w_388, w_389, w_55, w_390, ⟨by decide +kernel, by decide +kernel⟩, by decide +kernel⟩
theorem L_L_X5_removeCard : LnkV RL 70 yX5_removeCard cX5_removeCard 2 (some .int) 1 := ⟨w_756, w_757, w_758, w_60, w_759, ⟨by decide +kernel, by decide +kernel⟩, by decide +kernel⟩
theorem L_L_X4_cardCount : LnkV RL 71 yX4_cardCount cX4_cardCount 1 (some .int) 0 := ⟨w_399, w_400, w_401, w_55, w_402, ⟨by decide +kernel, by decide +kernel⟩, by decide +kernel⟩
theorem L_L_X5_cardCount : LnkV RL 74 yX5_cardCount cX5_cardCount 1 (some .int) 0 := ⟨w_768, w_769, w_770, w_60, w_771, ⟨by decide +kernel, by decide +kernel⟩, by decide +kernel⟩
theorem L_L_X4_end : LnkV RL 75 yX4_end cX4_end 2 (some .int) 1 := ⟨w_403, w_404, w_405, w_55, w_406, ⟨by decide +kernel, by decide +kernel⟩, by decide +kernel⟩
theorem L_L_X5_end : LnkV RL 78 yX5_end cX5_end 2 (some .int) 1 := ⟨w_772, w_773, w_774, w_60, w_775, ⟨by decide +kernel, by decide +kernel⟩, by decide +kernel⟩
theorem L_L_X4_speed : LnkV RL 79 yX4_speed cX4_speed 2 (some .int) 1 := ⟨w_407, w_408, w_409, w_55, w_410, ⟨by decide +kernel, by decide +kernel⟩, by decide +kernel⟩
theorem L_L_X5_speed : LnkV RL 82 yX5_speed cX5_speed 2 (some .int) 1 := ⟨w_776, w_777, w_778, w_60, w_779, ⟨by decide +kernel, by decide +kernel⟩, by decide +kernel⟩
theorem L_L_X4_pressure : LnkV RL 83 yX4_pressure cX4_pressure 4 (some .int) 3 := ⟨w_411, w_412, w_413, w_55, w_414, ⟨by decide +kernel, by decide +kernel⟩, by decide +kernel⟩
theorem L_L_X5_pressure : LnkV RL 86 yX5_pressure cX5_pressure 4 (some .int) 3 := ⟨w_780, w_781, w_782, w_60, w_783, ⟨by decide +kernel, by decide +kernel⟩, by decide +kernel⟩
theorem L_L_X4_area : LnkV RL 87 yX4_area cX4_area 2 (some .int) 1 := ⟨w_419, w_420, w_421, w_55, w_422, ⟨by decide +kernel, by decide +kernel⟩, by decide +kernel⟩
theorem L_L_X5_area : LnkV RL 90 yX5_area cX5_area 2 (some .int) 1 := ⟨w_784, w_785, w_786, w_60, w_787, ⟨by decide +kernel, by decide +kernel⟩, by decide +kernel⟩
theorem L_L_X4_forwardArea : LnkV RL 91 yX4_forwardArea cX4_forwardArea 2 (some .int) 1 := ⟨w_431, w_432, w_433, w_55, w_434, ⟨by decide +kernel, by decide +kernel⟩, by decide +kernel⟩
theorem L_L_X5_forwardArea : LnkV RL 94 yX5_forwardArea cX5_forwardArea 2 (some .int) 1 := ⟨w_796, w_797, w_798, w_60, w_799, ⟨by decide +kernel, by decide +kernel⟩, by decide +kernel⟩
theorem L_L_X4_loopArea : LnkV RL 95 yX4_loopArea cX4_loopArea 2 (some .int) 1 := ⟨w_449, w_450, w_451, w_55, w_452, ⟨by decide +kernel, by decide +kernel⟩, by decide +kernel⟩
theorem L_L_X5_loopArea : LnkV RL 98 yX5_loopArea cX5_loopArea 2 (some .int) 1 := ⟨w_807, w_808, w_809, w_60, w_810, ⟨by decide +kernel, by decide +kernel⟩, by decide +kernel⟩
theorem L_L_X4_loopStations : LnkV RL 99 yX4_loopStations cX4_loopStations 2 (some .int) 1 := ⟨w_457, w_458, w_459, w_55, w_460, ⟨by decide +kernel, by decide +kernel⟩, by decide +kernel⟩
theorem L_L_X5_loopStations : LnkV RL 102 yX5_loopStations cX5_loopStations 4 (some .int) 1 := ⟨w_811, w_812, w_813, w_60, w_814, ⟨by decide +kernel, by decide +kernel⟩, by decide +kernel⟩
theorem L_L_X4_meanPressure : LnkV RL 103 yX4_meanPressure cX4_meanPressure 2 (some .int) 1 := ⟨w_465, w_466, w_467, w_55, w_468, ⟨by decide +kernel, by decide +kernel⟩, by decide +kernel⟩
theorem L_L_X5_meanPressure : LnkV RL 106 yX5_meanPressure cX5_meanPressure 2 (some .int) 1 := ⟨w_815, w_816, w_817, w_60, w_818, ⟨by decide +kernel, by decide +kernel⟩, by decide +kernel⟩
theorem L_L_X4_power : LnkV RL 107 yX4_power cX4_power 2 (some .long) 1 := ⟨w_469, w_470, w_471, w_55, w_472, ⟨by decide +kernel, by decide +kernel⟩, by decide +kernel⟩
theorem L_L_X5_power : LnkV RL 111 yX5_power cX5_power 2 (some .long) 1 := ⟨w_820, w_821, w_822, w_60, w_823, ⟨by decide +kernel, by decide +kernel⟩, by decide +kernel⟩
theorem L_L_X4_event : LnkV RL 112 yX4_event cX4_event 3 (some .int) 2 := ⟨w_489, w_490, w_491, w_55, w_492, ⟨by decide +kernel, by decide +kernel⟩, by decide +kernel⟩
theorem L_L_X5_event : LnkV RL 115 yX5_event cX5_event 3 (some .int) 2 := ⟨w_834, w_835, w_836, w_60, w_837, ⟨by decide +kernel, by decide +kernel⟩, by decide +kernel⟩
theorem L_L_X4_lateness : LnkV RL 116 yX4_lateness cX4_lateness 3 (some .int) 2 := ⟨w_525, w_526, w_527, w_55, w_528, ⟨by decide +kernel, by decide +kernel⟩, by decide +kernel⟩
theorem L_L_X5_lateness : LnkV RL 119 yX5_lateness cX5_lateness 3 (some .int) 2 := ⟨w_866, w_867, w_868, w_60, w_869, ⟨by decide +kernel, by decide +kernel⟩, by decide +kernel⟩
theorem L_L_X4_slip : LnkV RL 120 yX4_slip cX4_slip 8 (some .int) 1 := ⟨w_533, w_534, w_535, w_55, w_536, ⟨by decide +kernel, by decide +kernel⟩, by decide +kernel⟩
theorem L_L_X5_slip : LnkV RL 123 yX5_slip cX5_slip 4 (some .int) 1 := ⟨w_874, w_875, w_876, w_60, w_877, ⟨by decide +kernel, by decide +kernel⟩, by decide +kernel⟩
theorem L_L_X4_constant : LnkV RL 124 yX4_constant cX4_constant 3 (some .int) 2 := ⟨w_544, w_545, w_546, w_55, w_547, ⟨by decide +kernel, by decide +kernel⟩, by decide +kernel⟩
theorem L_L_X5_constant : LnkV RL 127 yX5_constant cX5_constant 3 (some .int) 2 := ⟨w_885, w_886, w_887, w_60, w_888, ⟨by decide +kernel, by decide +kernel⟩, by decide +kernel⟩
theorem L_L_X4_leakage : LnkV RL 128 yX4_leakage cX4_leakage 4 (some .int) 1 := ⟨w_548, w_549, w_550, w_55, w_551, ⟨by decide +kernel, by decide +kernel⟩, by decide +kernel⟩
theorem L_L_X5_leakage : LnkV RL 131 yX5_leakage cX5_leakage 5 (some .int) 1 := ⟨w_889, w_890, w_891, w_60, w_892, ⟨by decide +kernel, by decide +kernel⟩, by decide +kernel⟩
theorem L_L_X4_cardsOf : LnkV RL 132 yX4_cardsOf cX4_cardsOf 2 (some .int) 1 := ⟨w_553, w_554, w_555, w_55, w_556, ⟨by decide +kernel, by decide +kernel⟩, by decide +kernel⟩
theorem L_L_X5_cardsOf : LnkV RL 135 yX5_cardsOf cX5_cardsOf 2 (some .int) 1 := ⟨w_894, w_895, w_896, w_60, w_897, ⟨by decide +kernel, by decide +kernel⟩, by decide +kernel⟩
theorem L_L_X4_meanArea : LnkV RL 136 yX4_meanArea cX4_meanArea 2 (some .int) 1 := ⟨w_561, w_562, w_563, w_55, w_564, ⟨by decide +kernel, by decide +kernel⟩, by decide +kernel⟩
theorem L_L_X5_meanArea : LnkV RL 139 yX5_meanArea cX5_meanArea 6 (some .int) 1 := ⟨w_902, w_903, w_904, w_60, w_905, ⟨by decide +kernel, by decide +kernel⟩, by decide +kernel⟩
theorem L_L_X4_meanPower : LnkV RL 140 yX4_meanPower cX4_meanPower 2 (some .long) 1 := ⟨w_569, w_570, w_571, w_55, w_572, ⟨by decide +kernel, by decide +kernel⟩, by decide +kernel⟩
theorem L_L_X5_meanPower : LnkV RL 143 yX5_meanPower cX5_meanPower 2 (some .long) 1 := ⟨w_906, w_907, w_908, w_60, w_909, ⟨by decide +kernel, by decide +kernel⟩, by decide +kernel⟩
theorem L_L_X4_imbalance : LnkV RL 144 yX4_imbalance cX4_imbalance 5 (some .int) 0 := ⟨w_578, w_579, w_580, w_55, w_581, ⟨by decide +kernel, by decide +kernel⟩, by decide +kernel⟩
theorem L_L_X5_imbalance : LnkV RL 147 yX5_imbalance cX5_imbalance 7 (some .int) 0 := ⟨w_915, w_916, w_917, w_60, w_918, ⟨by decide +kernel, by decide +kernel⟩, by decide +kernel⟩
theorem L_L_X4_removeOutliers : LnkV RL 148 yX4_removeOutliers cX4_removeOutliers 6 (some .int) 2 := ⟨w_586, w_587, w_588, w_55, w_589, ⟨by decide +kernel, by decide +kernel⟩, by decide +kernel⟩
theorem L_L_X5_removeOutliers : LnkV RL 151 yX5_removeOutliers cX5_removeOutliers 7 (some .int) 2 := ⟨w_919, w_920, w_921, w_60, w_922, ⟨by decide +kernel, by decide +kernel⟩, by decide +kernel⟩
theorem L_L_X4_idealArea : LnkV RL 152 yX4_idealArea cX4_idealArea 2 (some .int) 1 := ⟨w_601, w_602, w_603, w_55, w_604, ⟨by decide +kernel, by decide +kernel⟩, by decide +kernel⟩
theorem L_L_X5_idealArea : LnkV RL 155 yX5_idealArea cX5_idealArea 2 (some .int) 1 := ⟨w_927, w_928, w_929, w_60, w_930, ⟨by decide +kernel, by decide +kernel⟩, by decide +kernel⟩
theorem L_L_X4_bestCutOff : LnkV RL 156 yX4_bestCutOff cX4_bestCutOff 3 (some .int) 2 := ⟨w_609, w_610, w_611, w_55, w_612, ⟨by decide +kernel, by decide +kernel⟩, by decide +kernel⟩
theorem L_L_X5_bestCutOff : LnkV RL 159 yX5_bestCutOff cX5_bestCutOff 8 (some .int) 2 := ⟨w_935, w_936, w_937, w_60, w_938, ⟨by decide +kernel, by decide +kernel⟩, by decide +kernel⟩
theorem L_L_X4_balancingCutOff : LnkV RL 160 yX4_balancingCutOff cX4_balancingCutOff 3 (some .int) 0 := ⟨w_620, w_621, w_622, w_55, w_623, ⟨by decide +kernel, by decide +kernel⟩, by decide +kernel⟩
theorem L_L_X5_balancingCutOff : LnkV RL 163 yX5_balancingCutOff cX5_balancingCutOff 12 (some .int) 0 := ⟨w_945, w_946, w_947, w_60, w_948, ⟨by decide +kernel, by decide +kernel⟩, by decide +kernel⟩
theorem L_L_X4_historySize : LnkV RL 164 yX4_historySize cX4_historySize 1 (some .int) 0 := ⟨w_624, w_625, w_626, w_55, w_627, ⟨by decide +kernel, by decide +kernel⟩, by decide +kernel⟩
theorem L_L_X5_historySize : LnkV RL 167 yX5_historySize cX5_historySize 1 (some .int) 0 := ⟨w_645, w_646, w_647, w_60, w_648, ⟨by decide +kernel, by decide +kernel⟩, by decide +kernel⟩
theorem L_L_X4_undo : LnkV RL 168 yX4_undo cX4_undo 1 (some .int) 0 := ⟨w_628, w_629, w_630, w_55, w_631, ⟨by decide +kernel, by decide +kernel⟩, by decide +kernel⟩
theorem L_L_X5_undo : LnkV RL 171 yX5_undo cX5_undo 1 (some .int) 0 := ⟨w_649, w_650, w_651, w_60, w_652, ⟨by decide +kernel, by decide +kernel⟩, by decide +kernel⟩
section LAW
variable {p : Program} {l : Launch} {e : Env} {s : State} {m : MethodId} {below : List Frame} {meth : Method} {c : Code} {H : Heap} {locs : List Loc} {cells slots : Nat} {Q : State → Prop}
variable {b L i : Nat} {xs : Nat → Int32} {ls : Array Slot} {g : kG} {x a : Nat → Nat} {M : Nat → Prop} {o q top n : Nat} {f : Nat → Int32}
set_option maxHeartbeats 4000000 in
set_option maxRecDepth 100000 in
/-- setClearance -/
theorem law_0 (hC : CallFix p m c cL_law 4 s #[Value.ref b] lw_good RL) (hK : KK g s) (hXs : va_X b L xs s s.heap) (hbl : b < s.heap.size) (hL : L ≤ 3072) (hi : 6 * i + 6 ≤ L) (hc0 : LC x M o q s.heap.size top) (hJ : LJ g x a M o q top f n H) (hS : va_S (fun z => s.heap.size ≤ z) s.heap H locs) (hcl : cells + 3 ≤ 600000) (hsl : slots + 46 ≤ 7302250) (hl : lv_has ls 4 [(3, .int (nI (6 * i))), (2, .ref o), (1, .ref (x 0)), (0, .ref b)])
    (kk : ∀ (f2 : Nat → Int32) (n2 : Nat) (H2 : Heap) (locs2 : List Loc) (ls2 : Array Slot), LJ g x a M o q top f2 n2 H2 → va_S (fun z => s.heap.size ≤ z) s.heap H2 locs2 → lv_has ls2 4 [(3, .int (nI (6 * i))), (2, .ref o), (1, .ref (x 0)), (0, .ref b)] → W p l e room_1 s m #[Value.ref b] below meth c H2 locs2 (cells + 3) (slots + 46) Q (F0 m 1216 ls2 [])) : W p l e room_1 s m #[Value.ref b] below meth c H locs cells slots Q (F0 m 200 ls []) := by
  have hx := hC.1
  have hb := hC.2.1
  have hml := hC.2.2.1
  obtain ⟨hX, hR, hG, htop⟩ := hJ
  obtain ⟨⟨hGF, ⟨hV8, hV12⟩, hGT, cn, hcn, hc, hGC⟩, -⟩ := id hG
  have hn4 := hX.1
  obtain ⟨rq, hXB, hXS, hback⟩ := hX.q hc hcn
  refine lv_aload_n hx hb dL_law_200 rfl (lvG hl rfl) ?_
  refine lv_aload_n hx hb dL_law_201 rfl (lvG hl rfl) ?_
  refine lv_iload_n hx hb dL_law_202 rfl (lvG hl rfl) ?_
  refine lv_iconst (v := nI 1) hx hb dL_law_203 (by decide) ?_
  refine n_iadd hC dL_law_204 ?_
  refine l_sld hC hXs hbl hS (show 6 * i + 1 < L by omega) hL dL_law_205 ?_
  refine k_callMI0 (k_goV (rest := []) hC hK (c_X4_setClearance l g x a M f n (xs (6 * i + 1))) L_L_X4_setClearance ⟨⟨Nat.le_of_ble_eq_true rfl, Nat.le_of_ble_eq_true rfl⟩, ⟨rfl, rfl⟩, ⟨(by show _ ≤ 600000; omega), (by show _ ≤ 7302250; omega)⟩⟩ (hX.recv hK) hX rfl hl.1 rfl (Nat.le_of_ble_eq_true rfl) dL_law_206) hS (fun z h => (hc0.2.2 z (Or.inl h)).1) (fun r1 H1 locs1 hq1 hz1 hk1 hS1 => ?_)
  obtain ⟨e1, hX1⟩ := hq1
  have hR1 := hR.kept hk1 (fun c => (hc0.2.1 _ (Or.inl c)).1 rfl) (fun c => (hc0.2.1 _ (Or.inl c)).2 rfl)
  refine lv_aload_n hx hb dL_law_209 rfl (lvG hl rfl) ?_
  refine lv_aload_n hx hb dL_law_210 rfl (lvG hl rfl) ?_
  refine lv_iload_n hx hb dL_law_211 rfl (lvG hl rfl) ?_
  refine lv_iconst (v := nI 1) hx hb dL_law_212 (by decide) ?_
  refine n_iadd hC dL_law_213 ?_
  refine l_sld hC hXs hbl hS1 (show 6 * i + 1 < L by omega) hL dL_law_214 ?_
  refine k_callMI0 (k_goV (rest := [.int (r1)]) hC hK (c_X5_setClearance l g o q f n (xs (6 * i + 1))) L_L_X5_setClearance ⟨⟨Nat.le_of_ble_eq_true rfl, Nat.le_of_ble_eq_true rfl⟩, ⟨rfl, rfl⟩, ⟨(by show _ ≤ 600000; omega), (by show _ ≤ 7302250; omega)⟩⟩ (hR1.recv hK) hR1 rfl hl.1 rfl (Nat.le_of_ble_eq_true rfl) dL_law_215) hS1 (fun z h => h.elim (fun e => e ▸ hc0.oo.1) (fun e => e ▸ hc0.qq.1)) (fun r2 H2 locs2 hq2 hz2 hk2 hS2 => ?_)
  obtain ⟨e2, hR2⟩ := hq2
  have hX2 := hX1.ref hc0 hk2
  refine lv_icmp_eq (tgt := 1216) hx hb dL_law_218 (by decide) (fun _ => ?_) (fun z => absurd (e1.trans e2.symm) z)
  refine W.widen (k := cells + 3) (n := slots + 46) (by omega) (by omega) ?_
  exact kk _ _ H2 _ _ ⟨hX2, hR2, hG.put hn4 (by decide) (fun c _ h => h.u0 (iv_of c (by decide) (by decide))), (Nat.le_trans (Nat.le_trans htop hz1) hz2)⟩ hS2 hl
set_option maxHeartbeats 4000000 in
set_option maxRecDepth 100000 in
/-- setPistonArea -/
theorem law_1 (hC : CallFix p m c cL_law 4 s #[Value.ref b] lw_good RL) (hK : KK g s) (hXs : va_X b L xs s s.heap) (hbl : b < s.heap.size) (hL : L ≤ 3072) (hi : 6 * i + 6 ≤ L) (hc0 : LC x M o q s.heap.size top) (hJ : LJ g x a M o q top f n H) (hS : va_S (fun z => s.heap.size ≤ z) s.heap H locs) (hcl : cells + 3 ≤ 600000) (hsl : slots + 46 ≤ 7302250) (hl : lv_has ls 4 [(3, .int (nI (6 * i))), (2, .ref o), (1, .ref (x 0)), (0, .ref b)])
    (kk : ∀ (f2 : Nat → Int32) (n2 : Nat) (H2 : Heap) (locs2 : List Loc) (ls2 : Array Slot), LJ g x a M o q top f2 n2 H2 → va_S (fun z => s.heap.size ≤ z) s.heap H2 locs2 → lv_has ls2 4 [(3, .int (nI (6 * i))), (2, .ref o), (1, .ref (x 0)), (0, .ref b)] → W p l e room_1 s m #[Value.ref b] below meth c H2 locs2 (cells + 3) (slots + 46) Q (F0 m 1216 ls2 [])) : W p l e room_1 s m #[Value.ref b] below meth c H locs cells slots Q (F0 m 223 ls []) := by
  have hx := hC.1
  have hb := hC.2.1
  have hml := hC.2.2.1
  obtain ⟨hX, hR, hG, htop⟩ := hJ
  obtain ⟨⟨hGF, ⟨hV8, hV12⟩, hGT, cn, hcn, hc, hGC⟩, -⟩ := id hG
  have hn4 := hX.1
  obtain ⟨rq, hXB, hXS, hback⟩ := hX.q hc hcn
  refine lv_aload_n hx hb dL_law_223 rfl (lvG hl rfl) ?_
  refine lv_aload_n hx hb dL_law_224 rfl (lvG hl rfl) ?_
  refine lv_iload_n hx hb dL_law_225 rfl (lvG hl rfl) ?_
  refine lv_iconst (v := nI 1) hx hb dL_law_226 (by decide) ?_
  refine n_iadd hC dL_law_227 ?_
  refine l_sld hC hXs hbl hS (show 6 * i + 1 < L by omega) hL dL_law_228 ?_
  refine lv_aload_n hx hb dL_law_229 rfl (lvG hl rfl) ?_
  refine lv_iload_n hx hb dL_law_230 rfl (lvG hl rfl) ?_
  refine lv_iconst (v := nI 2) hx hb dL_law_231 (by decide) ?_
  refine n_iadd hC dL_law_232 ?_
  refine l_sld hC hXs hbl hS (show 6 * i + 2 < L by omega) hL dL_law_233 ?_
  refine k_callMI0 (k_goV (rest := []) hC hK (c_X4_setPistonArea l g x a M f n (xs (6 * i + 1)) (xs (6 * i + 2))) L_L_X4_setPistonArea ⟨⟨Nat.le_of_ble_eq_true rfl, Nat.le_of_ble_eq_true rfl⟩, ⟨rfl, rfl⟩, ⟨(by show _ ≤ 600000; omega), (by show _ ≤ 7302250; omega)⟩⟩ (hX.recv hK) hX rfl hl.1 rfl (Nat.le_of_ble_eq_true rfl) dL_law_234) hS (fun z h => (hc0.2.2 z (Or.inl h)).1) (fun r1 H1 locs1 hq1 hz1 hk1 hS1 => ?_)
  obtain ⟨e1, hX1⟩ := hq1
  have hR1 := hR.kept hk1 (fun c => (hc0.2.1 _ (Or.inl c)).1 rfl) (fun c => (hc0.2.1 _ (Or.inl c)).2 rfl)
  refine lv_aload_n hx hb dL_law_237 rfl (lvG hl rfl) ?_
  refine lv_aload_n hx hb dL_law_238 rfl (lvG hl rfl) ?_
  refine lv_iload_n hx hb dL_law_239 rfl (lvG hl rfl) ?_
  refine lv_iconst (v := nI 1) hx hb dL_law_240 (by decide) ?_
  refine n_iadd hC dL_law_241 ?_
  refine l_sld hC hXs hbl hS1 (show 6 * i + 1 < L by omega) hL dL_law_242 ?_
  refine lv_aload_n hx hb dL_law_243 rfl (lvG hl rfl) ?_
  refine lv_iload_n hx hb dL_law_244 rfl (lvG hl rfl) ?_
  refine lv_iconst (v := nI 2) hx hb dL_law_245 (by decide) ?_
  refine n_iadd hC dL_law_246 ?_
  refine l_sld hC hXs hbl hS1 (show 6 * i + 2 < L by omega) hL dL_law_247 ?_
  refine k_callMI0 (k_goV (rest := [.int (r1)]) hC hK (c_X5_setPistonArea l g o q f n (xs (6 * i + 1)) (xs (6 * i + 2))) L_L_X5_setPistonArea ⟨⟨Nat.le_of_ble_eq_true rfl, Nat.le_of_ble_eq_true rfl⟩, ⟨rfl, rfl⟩, ⟨(by show _ ≤ 600000; omega), (by show _ ≤ 7302250; omega)⟩⟩ (hR1.recv hK) hR1 rfl hl.1 rfl (Nat.le_of_ble_eq_true rfl) dL_law_248) hS1 (fun z h => h.elim (fun e => e ▸ hc0.oo.1) (fun e => e ▸ hc0.qq.1)) (fun r2 H2 locs2 hq2 hz2 hk2 hS2 => ?_)
  obtain ⟨e2, hR2⟩ := hq2
  have hX2 := hX1.ref hc0 hk2
  refine lv_icmp_eq (tgt := 1216) hx hb dL_law_251 (by decide) (fun _ => ?_) (fun z => absurd (e1.trans e2.symm) z)
  refine W.widen (k := cells + 3) (n := slots + 46) (by omega) (by omega) ?_
  exact kk _ _ H2 _ _ ⟨hX2, hR2, GD.pa hn4 hG, (Nat.le_trans (Nat.le_trans htop hz1) hz2)⟩ hS2 hl
set_option maxHeartbeats 4000000 in
set_option maxRecDepth 100000 in
/-- setStroke -/
theorem law_2 (hC : CallFix p m c cL_law 4 s #[Value.ref b] lw_good RL) (hK : KK g s) (hXs : va_X b L xs s s.heap) (hbl : b < s.heap.size) (hL : L ≤ 3072) (hi : 6 * i + 6 ≤ L) (hc0 : LC x M o q s.heap.size top) (hJ : LJ g x a M o q top f n H) (hS : va_S (fun z => s.heap.size ≤ z) s.heap H locs) (hcl : cells + 3 ≤ 600000) (hsl : slots + 46 ≤ 7302250) (hl : lv_has ls 4 [(3, .int (nI (6 * i))), (2, .ref o), (1, .ref (x 0)), (0, .ref b)])
    (kk : ∀ (f2 : Nat → Int32) (n2 : Nat) (H2 : Heap) (locs2 : List Loc) (ls2 : Array Slot), LJ g x a M o q top f2 n2 H2 → va_S (fun z => s.heap.size ≤ z) s.heap H2 locs2 → lv_has ls2 4 [(3, .int (nI (6 * i))), (2, .ref o), (1, .ref (x 0)), (0, .ref b)] → W p l e room_1 s m #[Value.ref b] below meth c H2 locs2 (cells + 3) (slots + 46) Q (F0 m 1216 ls2 [])) : W p l e room_1 s m #[Value.ref b] below meth c H locs cells slots Q (F0 m 256 ls []) := by
  have hx := hC.1
  have hb := hC.2.1
  have hml := hC.2.2.1
  obtain ⟨hX, hR, hG, htop⟩ := hJ
  obtain ⟨⟨hGF, ⟨hV8, hV12⟩, hGT, cn, hcn, hc, hGC⟩, -⟩ := id hG
  have hn4 := hX.1
  obtain ⟨rq, hXB, hXS, hback⟩ := hX.q hc hcn
  refine lv_aload_n hx hb dL_law_256 rfl (lvG hl rfl) ?_
  refine lv_aload_n hx hb dL_law_257 rfl (lvG hl rfl) ?_
  refine lv_iload_n hx hb dL_law_258 rfl (lvG hl rfl) ?_
  refine lv_iconst (v := nI 1) hx hb dL_law_259 (by decide) ?_
  refine n_iadd hC dL_law_260 ?_
  refine l_sld hC hXs hbl hS (show 6 * i + 1 < L by omega) hL dL_law_261 ?_
  refine k_callMI0 (k_goV (rest := []) hC hK (c_X4_setStroke l g x a M f n (xs (6 * i + 1))) L_L_X4_setStroke ⟨⟨Nat.le_of_ble_eq_true rfl, Nat.le_of_ble_eq_true rfl⟩, ⟨rfl, rfl⟩, ⟨(by show _ ≤ 600000; omega), (by show _ ≤ 7302250; omega)⟩⟩ (hX.recv hK) hX rfl hl.1 rfl (Nat.le_of_ble_eq_true rfl) dL_law_262) hS (fun z h => (hc0.2.2 z (Or.inl h)).1) (fun r1 H1 locs1 hq1 hz1 hk1 hS1 => ?_)
  obtain ⟨e1, hX1⟩ := hq1
  have hR1 := hR.kept hk1 (fun c => (hc0.2.1 _ (Or.inl c)).1 rfl) (fun c => (hc0.2.1 _ (Or.inl c)).2 rfl)
  refine lv_aload_n hx hb dL_law_265 rfl (lvG hl rfl) ?_
  refine lv_aload_n hx hb dL_law_266 rfl (lvG hl rfl) ?_
  refine lv_iload_n hx hb dL_law_267 rfl (lvG hl rfl) ?_
  refine lv_iconst (v := nI 1) hx hb dL_law_268 (by decide) ?_
  refine n_iadd hC dL_law_269 ?_
  refine l_sld hC hXs hbl hS1 (show 6 * i + 1 < L by omega) hL dL_law_270 ?_
  refine k_callMI0 (k_goV (rest := [.int (r1)]) hC hK (c_X5_setStroke l g o q f n (xs (6 * i + 1))) L_L_X5_setStroke ⟨⟨Nat.le_of_ble_eq_true rfl, Nat.le_of_ble_eq_true rfl⟩, ⟨rfl, rfl⟩, ⟨(by show _ ≤ 600000; omega), (by show _ ≤ 7302250; omega)⟩⟩ (hR1.recv hK) hR1 rfl hl.1 rfl (Nat.le_of_ble_eq_true rfl) dL_law_271) hS1 (fun z h => h.elim (fun e => e ▸ hc0.oo.1) (fun e => e ▸ hc0.qq.1)) (fun r2 H2 locs2 hq2 hz2 hk2 hS2 => ?_)
  obtain ⟨e2, hR2⟩ := hq2
  have hX2 := hX1.ref hc0 hk2
  refine lv_icmp_eq (tgt := 1216) hx hb dL_law_274 (by decide) (fun _ => ?_) (fun z => absurd (e1.trans e2.symm) z)
  refine W.widen (k := cells + 3) (n := slots + 46) (by omega) (by omega) ?_
  exact kk _ _ H2 _ _ ⟨hX2, hR2, hG.put hn4 (by decide) (fun c _ h => h.u3 (iv_of c (by decide) (by decide))), (Nat.le_trans (Nat.le_trans htop hz1) hz2)⟩ hS2 hl
set_option maxHeartbeats 4000000 in
set_option maxRecDepth 100000 in
/-- setBoilerPressure -/
theorem law_3 (hC : CallFix p m c cL_law 4 s #[Value.ref b] lw_good RL) (hK : KK g s) (hXs : va_X b L xs s s.heap) (hbl : b < s.heap.size) (hL : L ≤ 3072) (hi : 6 * i + 6 ≤ L) (hc0 : LC x M o q s.heap.size top) (hJ : LJ g x a M o q top f n H) (hS : va_S (fun z => s.heap.size ≤ z) s.heap H locs) (hcl : cells + 3 ≤ 600000) (hsl : slots + 46 ≤ 7302250) (hl : lv_has ls 4 [(3, .int (nI (6 * i))), (2, .ref o), (1, .ref (x 0)), (0, .ref b)])
    (kk : ∀ (f2 : Nat → Int32) (n2 : Nat) (H2 : Heap) (locs2 : List Loc) (ls2 : Array Slot), LJ g x a M o q top f2 n2 H2 → va_S (fun z => s.heap.size ≤ z) s.heap H2 locs2 → lv_has ls2 4 [(3, .int (nI (6 * i))), (2, .ref o), (1, .ref (x 0)), (0, .ref b)] → W p l e room_1 s m #[Value.ref b] below meth c H2 locs2 (cells + 3) (slots + 46) Q (F0 m 1216 ls2 [])) : W p l e room_1 s m #[Value.ref b] below meth c H locs cells slots Q (F0 m 279 ls []) := by
  have hx := hC.1
  have hb := hC.2.1
  have hml := hC.2.2.1
  obtain ⟨hX, hR, hG, htop⟩ := hJ
  obtain ⟨⟨hGF, ⟨hV8, hV12⟩, hGT, cn, hcn, hc, hGC⟩, -⟩ := id hG
  have hn4 := hX.1
  obtain ⟨rq, hXB, hXS, hback⟩ := hX.q hc hcn
  refine lv_aload_n hx hb dL_law_279 rfl (lvG hl rfl) ?_
  refine lv_aload_n hx hb dL_law_280 rfl (lvG hl rfl) ?_
  refine lv_iload_n hx hb dL_law_281 rfl (lvG hl rfl) ?_
  refine lv_iconst (v := nI 1) hx hb dL_law_282 (by decide) ?_
  refine n_iadd hC dL_law_283 ?_
  refine l_sld hC hXs hbl hS (show 6 * i + 1 < L by omega) hL dL_law_284 ?_
  refine k_callMI0 (k_goV (rest := []) hC hK (c_X4_setBoilerPressure l g x a M f n (xs (6 * i + 1))) L_L_X4_setBoilerPressure ⟨⟨Nat.le_of_ble_eq_true rfl, Nat.le_of_ble_eq_true rfl⟩, ⟨rfl, rfl⟩, ⟨(by show _ ≤ 600000; omega), (by show _ ≤ 7302250; omega)⟩⟩ (hX.recv hK) hX rfl hl.1 rfl (Nat.le_of_ble_eq_true rfl) dL_law_285) hS (fun z h => (hc0.2.2 z (Or.inl h)).1) (fun r1 H1 locs1 hq1 hz1 hk1 hS1 => ?_)
  obtain ⟨e1, hX1⟩ := hq1
  have hR1 := hR.kept hk1 (fun c => (hc0.2.1 _ (Or.inl c)).1 rfl) (fun c => (hc0.2.1 _ (Or.inl c)).2 rfl)
  refine lv_aload_n hx hb dL_law_288 rfl (lvG hl rfl) ?_
  refine lv_aload_n hx hb dL_law_289 rfl (lvG hl rfl) ?_
  refine lv_iload_n hx hb dL_law_290 rfl (lvG hl rfl) ?_
  refine lv_iconst (v := nI 1) hx hb dL_law_291 (by decide) ?_
  refine n_iadd hC dL_law_292 ?_
  refine l_sld hC hXs hbl hS1 (show 6 * i + 1 < L by omega) hL dL_law_293 ?_
  refine k_callMI0 (k_goV (rest := [.int (r1)]) hC hK (c_X5_setBoilerPressure l g o q f n (xs (6 * i + 1))) L_L_X5_setBoilerPressure ⟨⟨Nat.le_of_ble_eq_true rfl, Nat.le_of_ble_eq_true rfl⟩, ⟨rfl, rfl⟩, ⟨(by show _ ≤ 600000; omega), (by show _ ≤ 7302250; omega)⟩⟩ (hR1.recv hK) hR1 rfl hl.1 rfl (Nat.le_of_ble_eq_true rfl) dL_law_294) hS1 (fun z h => h.elim (fun e => e ▸ hc0.oo.1) (fun e => e ▸ hc0.qq.1)) (fun r2 H2 locs2 hq2 hz2 hk2 hS2 => ?_)
  obtain ⟨e2, hR2⟩ := hq2
  have hX2 := hX1.ref hc0 hk2
  refine lv_icmp_eq (tgt := 1216) hx hb dL_law_297 (by decide) (fun _ => ?_) (fun z => absurd (e1.trans e2.symm) z)
  refine W.widen (k := cells + 3) (n := slots + 46) (by omega) (by omega) ?_
  exact kk _ _ H2 _ _ ⟨hX2, hR2, hG.put hn4 (by decide) (fun c _ h => h.u4 (iv_of c (by decide) (by decide))), (Nat.le_trans (Nat.le_trans htop hz1) hz2)⟩ hS2 hl
set_option maxHeartbeats 4000000 in
set_option maxRecDepth 100000 in
/-- setBackPressure -/
theorem law_4 (hC : CallFix p m c cL_law 4 s #[Value.ref b] lw_good RL) (hK : KK g s) (hXs : va_X b L xs s s.heap) (hbl : b < s.heap.size) (hL : L ≤ 3072) (hi : 6 * i + 6 ≤ L) (hc0 : LC x M o q s.heap.size top) (hJ : LJ g x a M o q top f n H) (hS : va_S (fun z => s.heap.size ≤ z) s.heap H locs) (hcl : cells + 3 ≤ 600000) (hsl : slots + 46 ≤ 7302250) (hl : lv_has ls 4 [(3, .int (nI (6 * i))), (2, .ref o), (1, .ref (x 0)), (0, .ref b)])
    (kk : ∀ (f2 : Nat → Int32) (n2 : Nat) (H2 : Heap) (locs2 : List Loc) (ls2 : Array Slot), LJ g x a M o q top f2 n2 H2 → va_S (fun z => s.heap.size ≤ z) s.heap H2 locs2 → lv_has ls2 4 [(3, .int (nI (6 * i))), (2, .ref o), (1, .ref (x 0)), (0, .ref b)] → W p l e room_1 s m #[Value.ref b] below meth c H2 locs2 (cells + 3) (slots + 46) Q (F0 m 1216 ls2 [])) : W p l e room_1 s m #[Value.ref b] below meth c H locs cells slots Q (F0 m 302 ls []) := by
  have hx := hC.1
  have hb := hC.2.1
  have hml := hC.2.2.1
  obtain ⟨hX, hR, hG, htop⟩ := hJ
  obtain ⟨⟨hGF, ⟨hV8, hV12⟩, hGT, cn, hcn, hc, hGC⟩, -⟩ := id hG
  have hn4 := hX.1
  obtain ⟨rq, hXB, hXS, hback⟩ := hX.q hc hcn
  refine lv_aload_n hx hb dL_law_302 rfl (lvG hl rfl) ?_
  refine lv_aload_n hx hb dL_law_303 rfl (lvG hl rfl) ?_
  refine lv_iload_n hx hb dL_law_304 rfl (lvG hl rfl) ?_
  refine lv_iconst (v := nI 1) hx hb dL_law_305 (by decide) ?_
  refine n_iadd hC dL_law_306 ?_
  refine l_sld hC hXs hbl hS (show 6 * i + 1 < L by omega) hL dL_law_307 ?_
  refine k_callMI0 (k_goV (rest := []) hC hK (c_X4_setBackPressure l g x a M f n (xs (6 * i + 1))) L_L_X4_setBackPressure ⟨⟨Nat.le_of_ble_eq_true rfl, Nat.le_of_ble_eq_true rfl⟩, ⟨rfl, rfl⟩, ⟨(by show _ ≤ 600000; omega), (by show _ ≤ 7302250; omega)⟩⟩ (hX.recv hK) hX rfl hl.1 rfl (Nat.le_of_ble_eq_true rfl) dL_law_308) hS (fun z h => (hc0.2.2 z (Or.inl h)).1) (fun r1 H1 locs1 hq1 hz1 hk1 hS1 => ?_)
  obtain ⟨e1, hX1⟩ := hq1
  have hR1 := hR.kept hk1 (fun c => (hc0.2.1 _ (Or.inl c)).1 rfl) (fun c => (hc0.2.1 _ (Or.inl c)).2 rfl)
  refine lv_aload_n hx hb dL_law_311 rfl (lvG hl rfl) ?_
  refine lv_aload_n hx hb dL_law_312 rfl (lvG hl rfl) ?_
  refine lv_iload_n hx hb dL_law_313 rfl (lvG hl rfl) ?_
  refine lv_iconst (v := nI 1) hx hb dL_law_314 (by decide) ?_
  refine n_iadd hC dL_law_315 ?_
  refine l_sld hC hXs hbl hS1 (show 6 * i + 1 < L by omega) hL dL_law_316 ?_
  refine k_callMI0 (k_goV (rest := [.int (r1)]) hC hK (c_X5_setBackPressure l g o q f n (xs (6 * i + 1))) L_L_X5_setBackPressure ⟨⟨Nat.le_of_ble_eq_true rfl, Nat.le_of_ble_eq_true rfl⟩, ⟨rfl, rfl⟩, ⟨(by show _ ≤ 600000; omega), (by show _ ≤ 7302250; omega)⟩⟩ (hR1.recv hK) hR1 rfl hl.1 rfl (Nat.le_of_ble_eq_true rfl) dL_law_317) hS1 (fun z h => h.elim (fun e => e ▸ hc0.oo.1) (fun e => e ▸ hc0.qq.1)) (fun r2 H2 locs2 hq2 hz2 hk2 hS2 => ?_)
  obtain ⟨e2, hR2⟩ := hq2
  have hX2 := hX1.ref hc0 hk2
  refine lv_icmp_eq (tgt := 1216) hx hb dL_law_320 (by decide) (fun _ => ?_) (fun z => absurd (e1.trans e2.symm) z)
  refine W.widen (k := cells + 3) (n := slots + 46) (by omega) (by omega) ?_
  exact kk _ _ H2 _ _ ⟨hX2, hR2, hG.put hn4 (by decide) (fun c _ h => h.u5 (iv_of c (by decide) (by decide))), (Nat.le_trans (Nat.le_trans htop hz1) hz2)⟩ hS2 hl
set_option maxHeartbeats 4000000 in
set_option maxRecDepth 100000 in
/-- setFinding -/
theorem law_5 (hC : CallFix p m c cL_law 4 s #[Value.ref b] lw_good RL) (hK : KK g s) (hXs : va_X b L xs s s.heap) (hbl : b < s.heap.size) (hL : L ≤ 3072) (hi : 6 * i + 6 ≤ L) (hc0 : LC x M o q s.heap.size top) (hJ : LJ g x a M o q top f n H) (hS : va_S (fun z => s.heap.size ≤ z) s.heap H locs) (hcl : cells + 3 ≤ 600000) (hsl : slots + 46 ≤ 7302250) (hl : lv_has ls 4 [(3, .int (nI (6 * i))), (2, .ref o), (1, .ref (x 0)), (0, .ref b)])
    (kk : ∀ (f2 : Nat → Int32) (n2 : Nat) (H2 : Heap) (locs2 : List Loc) (ls2 : Array Slot), LJ g x a M o q top f2 n2 H2 → va_S (fun z => s.heap.size ≤ z) s.heap H2 locs2 → lv_has ls2 4 [(3, .int (nI (6 * i))), (2, .ref o), (1, .ref (x 0)), (0, .ref b)] → W p l e room_1 s m #[Value.ref b] below meth c H2 locs2 (cells + 3) (slots + 46) Q (F0 m 1216 ls2 [])) : W p l e room_1 s m #[Value.ref b] below meth c H locs cells slots Q (F0 m 325 ls []) := by
  have hx := hC.1
  have hb := hC.2.1
  have hml := hC.2.2.1
  obtain ⟨hX, hR, hG, htop⟩ := hJ
  obtain ⟨⟨hGF, ⟨hV8, hV12⟩, hGT, cn, hcn, hc, hGC⟩, -⟩ := id hG
  have hn4 := hX.1
  obtain ⟨rq, hXB, hXS, hback⟩ := hX.q hc hcn
  refine lv_aload_n hx hb dL_law_325 rfl (lvG hl rfl) ?_
  refine lv_aload_n hx hb dL_law_326 rfl (lvG hl rfl) ?_
  refine lv_iload_n hx hb dL_law_327 rfl (lvG hl rfl) ?_
  refine lv_iconst (v := nI 1) hx hb dL_law_328 (by decide) ?_
  refine n_iadd hC dL_law_329 ?_
  refine l_sld hC hXs hbl hS (show 6 * i + 1 < L by omega) hL dL_law_330 ?_
  refine lv_aload_n hx hb dL_law_331 rfl (lvG hl rfl) ?_
  refine lv_iload_n hx hb dL_law_332 rfl (lvG hl rfl) ?_
  refine lv_iconst (v := nI 2) hx hb dL_law_333 (by decide) ?_
  refine n_iadd hC dL_law_334 ?_
  refine l_sld hC hXs hbl hS (show 6 * i + 2 < L by omega) hL dL_law_335 ?_
  refine k_callMI0 (k_goV (rest := []) hC hK (c_X4_setFinding l g x a M f n (xs (6 * i + 1)) (xs (6 * i + 2))) L_L_X4_setFinding ⟨⟨Nat.le_of_ble_eq_true rfl, Nat.le_of_ble_eq_true rfl⟩, ⟨rfl, rfl⟩, ⟨(by show _ ≤ 600000; omega), (by show _ ≤ 7302250; omega)⟩⟩ (hX.recv hK) hX rfl hl.1 rfl (Nat.le_of_ble_eq_true rfl) dL_law_336) hS (fun z h => (hc0.2.2 z (Or.inl h)).1) (fun r1 H1 locs1 hq1 hz1 hk1 hS1 => ?_)
  obtain ⟨e1, hX1⟩ := hq1
  have hR1 := hR.kept hk1 (fun c => (hc0.2.1 _ (Or.inl c)).1 rfl) (fun c => (hc0.2.1 _ (Or.inl c)).2 rfl)
  refine lv_aload_n hx hb dL_law_339 rfl (lvG hl rfl) ?_
  refine lv_aload_n hx hb dL_law_340 rfl (lvG hl rfl) ?_
  refine lv_iload_n hx hb dL_law_341 rfl (lvG hl rfl) ?_
  refine lv_iconst (v := nI 1) hx hb dL_law_342 (by decide) ?_
  refine n_iadd hC dL_law_343 ?_
  refine l_sld hC hXs hbl hS1 (show 6 * i + 1 < L by omega) hL dL_law_344 ?_
  refine lv_aload_n hx hb dL_law_345 rfl (lvG hl rfl) ?_
  refine lv_iload_n hx hb dL_law_346 rfl (lvG hl rfl) ?_
  refine lv_iconst (v := nI 2) hx hb dL_law_347 (by decide) ?_
  refine n_iadd hC dL_law_348 ?_
  refine l_sld hC hXs hbl hS1 (show 6 * i + 2 < L by omega) hL dL_law_349 ?_
  refine k_callMI0 (k_goV (rest := [.int (r1)]) hC hK (c_X5_setFinding l g o q f n (xs (6 * i + 1)) (xs (6 * i + 2))) L_L_X5_setFinding ⟨⟨Nat.le_of_ble_eq_true rfl, Nat.le_of_ble_eq_true rfl⟩, ⟨rfl, rfl⟩, ⟨(by show _ ≤ 600000; omega), (by show _ ≤ 7302250; omega)⟩⟩ (hR1.recv hK) hR1 rfl hl.1 rfl (Nat.le_of_ble_eq_true rfl) dL_law_350) hS1 (fun z h => h.elim (fun e => e ▸ hc0.oo.1) (fun e => e ▸ hc0.qq.1)) (fun r2 H2 locs2 hq2 hz2 hk2 hS2 => ?_)
  obtain ⟨e2, hR2⟩ := hq2
  have hX2 := hX1.ref hc0 hk2
  refine lv_icmp_eq (tgt := 1216) hx hb dL_law_353 (by decide) (fun _ => ?_) (fun z => absurd (e1.trans e2.symm) z)
  refine W.widen (k := cells + 3) (n := slots + 46) (by omega) (by omega) ?_
  exact kk _ _ H2 _ _ ⟨hX2, hR2, hG.se hn4, (Nat.le_trans (Nat.le_trans htop hz1) hz2)⟩ hS2 hl
set_option maxHeartbeats 4000000 in
set_option maxRecDepth 100000 in
/-- setValves -/
theorem law_6 (hC : CallFix p m c cL_law 4 s #[Value.ref b] lw_good RL) (hK : KK g s) (hXs : va_X b L xs s s.heap) (hbl : b < s.heap.size) (hL : L ≤ 3072) (hi : 6 * i + 6 ≤ L) (hc0 : LC x M o q s.heap.size top) (hJ : LJ g x a M o q top f n H) (hS : va_S (fun z => s.heap.size ≤ z) s.heap H locs) (hcl : cells + 3 ≤ 600000) (hsl : slots + 46 ≤ 7302250) (hl : lv_has ls 4 [(3, .int (nI (6 * i))), (2, .ref o), (1, .ref (x 0)), (0, .ref b)])
    (kk : ∀ (f2 : Nat → Int32) (n2 : Nat) (H2 : Heap) (locs2 : List Loc) (ls2 : Array Slot), LJ g x a M o q top f2 n2 H2 → va_S (fun z => s.heap.size ≤ z) s.heap H2 locs2 → lv_has ls2 4 [(3, .int (nI (6 * i))), (2, .ref o), (1, .ref (x 0)), (0, .ref b)] → W p l e room_1 s m #[Value.ref b] below meth c H2 locs2 (cells + 3) (slots + 46) Q (F0 m 1216 ls2 [])) : W p l e room_1 s m #[Value.ref b] below meth c H locs cells slots Q (F0 m 358 ls []) := by
  have hx := hC.1
  have hb := hC.2.1
  have hml := hC.2.2.1
  obtain ⟨hX, hR, hG, htop⟩ := hJ
  obtain ⟨⟨hGF, ⟨hV8, hV12⟩, hGT, cn, hcn, hc, hGC⟩, -⟩ := id hG
  have hn4 := hX.1
  obtain ⟨rq, hXB, hXS, hback⟩ := hX.q hc hcn
  refine lv_aload_n hx hb dL_law_358 rfl (lvG hl rfl) ?_
  refine lv_aload_n hx hb dL_law_359 rfl (lvG hl rfl) ?_
  refine lv_iload_n hx hb dL_law_360 rfl (lvG hl rfl) ?_
  refine lv_iconst (v := nI 1) hx hb dL_law_361 (by decide) ?_
  refine n_iadd hC dL_law_362 ?_
  refine l_sld hC hXs hbl hS (show 6 * i + 1 < L by omega) hL dL_law_363 ?_
  refine lv_aload_n hx hb dL_law_364 rfl (lvG hl rfl) ?_
  refine lv_iload_n hx hb dL_law_365 rfl (lvG hl rfl) ?_
  refine lv_iconst (v := nI 2) hx hb dL_law_366 (by decide) ?_
  refine n_iadd hC dL_law_367 ?_
  refine l_sld hC hXs hbl hS (show 6 * i + 2 < L by omega) hL dL_law_368 ?_
  refine lv_aload_n hx hb dL_law_369 rfl (lvG hl rfl) ?_
  refine lv_iload_n hx hb dL_law_370 rfl (lvG hl rfl) ?_
  refine lv_iconst (v := nI 3) hx hb dL_law_371 (by decide) ?_
  refine n_iadd hC dL_law_372 ?_
  refine l_sld hC hXs hbl hS (show 6 * i + 3 < L by omega) hL dL_law_373 ?_
  refine lv_aload_n hx hb dL_law_374 rfl (lvG hl rfl) ?_
  refine lv_iload_n hx hb dL_law_375 rfl (lvG hl rfl) ?_
  refine lv_iconst (v := nI 4) hx hb dL_law_376 (by decide) ?_
  refine n_iadd hC dL_law_377 ?_
  refine l_sld hC hXs hbl hS (show 6 * i + 4 < L by omega) hL dL_law_378 ?_
  refine lv_aload_n hx hb dL_law_379 rfl (lvG hl rfl) ?_
  refine lv_iload_n hx hb dL_law_380 rfl (lvG hl rfl) ?_
  refine lv_iconst (v := nI 5) hx hb dL_law_381 (by decide) ?_
  refine n_iadd hC dL_law_382 ?_
  refine l_sld hC hXs hbl hS (show 6 * i + 5 < L by omega) hL dL_law_383 ?_
  refine k_callMI0 (k_goV (rest := []) hC hK (c_X4_setValves l g x a M f n (xs (6 * i + 1)) (xs (6 * i + 2)) (xs (6 * i + 3)) (xs (6 * i + 4)) (xs (6 * i + 5))) L_L_X4_setValves ⟨⟨Nat.le_of_ble_eq_true rfl, Nat.le_of_ble_eq_true rfl⟩, ⟨rfl, rfl⟩, ⟨(by show _ ≤ 600000; omega), (by show _ ≤ 7302250; omega)⟩⟩ (hX.recv hK) hX rfl hl.1 rfl (Nat.le_of_ble_eq_true rfl) dL_law_384) hS (fun z h => (hc0.2.2 z (Or.inl h)).1) (fun r1 H1 locs1 hq1 hz1 hk1 hS1 => ?_)
  obtain ⟨e1, hX1⟩ := hq1
  have hR1 := hR.kept hk1 (fun c => (hc0.2.1 _ (Or.inl c)).1 rfl) (fun c => (hc0.2.1 _ (Or.inl c)).2 rfl)
  refine lv_aload_n hx hb dL_law_387 rfl (lvG hl rfl) ?_
  refine lv_aload_n hx hb dL_law_388 rfl (lvG hl rfl) ?_
  refine lv_iload_n hx hb dL_law_389 rfl (lvG hl rfl) ?_
  refine lv_iconst (v := nI 1) hx hb dL_law_390 (by decide) ?_
  refine n_iadd hC dL_law_391 ?_
  refine l_sld hC hXs hbl hS1 (show 6 * i + 1 < L by omega) hL dL_law_392 ?_
  refine lv_aload_n hx hb dL_law_393 rfl (lvG hl rfl) ?_
  refine lv_iload_n hx hb dL_law_394 rfl (lvG hl rfl) ?_
  refine lv_iconst (v := nI 2) hx hb dL_law_395 (by decide) ?_
  refine n_iadd hC dL_law_396 ?_
  refine l_sld hC hXs hbl hS1 (show 6 * i + 2 < L by omega) hL dL_law_397 ?_
  refine lv_aload_n hx hb dL_law_398 rfl (lvG hl rfl) ?_
  refine lv_iload_n hx hb dL_law_399 rfl (lvG hl rfl) ?_
  refine lv_iconst (v := nI 3) hx hb dL_law_400 (by decide) ?_
  refine n_iadd hC dL_law_401 ?_
  refine l_sld hC hXs hbl hS1 (show 6 * i + 3 < L by omega) hL dL_law_402 ?_
  refine lv_aload_n hx hb dL_law_403 rfl (lvG hl rfl) ?_
  refine lv_iload_n hx hb dL_law_404 rfl (lvG hl rfl) ?_
  refine lv_iconst (v := nI 4) hx hb dL_law_405 (by decide) ?_
  refine n_iadd hC dL_law_406 ?_
  refine l_sld hC hXs hbl hS1 (show 6 * i + 4 < L by omega) hL dL_law_407 ?_
  refine lv_aload_n hx hb dL_law_408 rfl (lvG hl rfl) ?_
  refine lv_iload_n hx hb dL_law_409 rfl (lvG hl rfl) ?_
  refine lv_iconst (v := nI 5) hx hb dL_law_410 (by decide) ?_
  refine n_iadd hC dL_law_411 ?_
  refine l_sld hC hXs hbl hS1 (show 6 * i + 5 < L by omega) hL dL_law_412 ?_
  refine k_callMI0 (k_goV (rest := [.int (r1)]) hC hK (c_X5_setValves l g o q f n (xs (6 * i + 1)) (xs (6 * i + 2)) (xs (6 * i + 3)) (xs (6 * i + 4)) (xs (6 * i + 5))) L_L_X5_setValves ⟨⟨Nat.le_of_ble_eq_true rfl, Nat.le_of_ble_eq_true rfl⟩, ⟨rfl, rfl⟩, ⟨(by show _ ≤ 600000; omega), (by show _ ≤ 7302250; omega)⟩⟩ (hR1.recv hK) hR1 rfl hl.1 rfl (Nat.le_of_ble_eq_true rfl) dL_law_413) hS1 (fun z h => h.elim (fun e => e ▸ hc0.oo.1) (fun e => e ▸ hc0.qq.1)) (fun r2 H2 locs2 hq2 hz2 hk2 hS2 => ?_)
  obtain ⟨e2, hR2⟩ := hq2
  have hX2 := hX1.ref hc0 hk2
  refine lv_icmp_eq (tgt := 1216) hx hb dL_law_416 (by decide) (fun _ => ?_) (fun z => absurd (e1.trans e2.symm) z)
  refine W.widen (k := cells + 3) (n := slots + 46) (by omega) (by omega) ?_
  exact kk _ _ H2 _ _ ⟨hX2, hR2, hG.sv hn4, (Nat.le_trans (Nat.le_trans htop hz1) hz2)⟩ hS2 hl
set_option maxHeartbeats 4000000 in
set_option maxRecDepth 100000 in
/-- valve -/
theorem law_7 (hC : CallFix p m c cL_law 4 s #[Value.ref b] lw_good RL) (hK : KK g s) (hXs : va_X b L xs s s.heap) (hbl : b < s.heap.size) (hL : L ≤ 3072) (hi : 6 * i + 6 ≤ L) (hc0 : LC x M o q s.heap.size top) (hJ : LJ g x a M o q top f n H) (hS : va_S (fun z => s.heap.size ≤ z) s.heap H locs) (hcl : cells + 3 ≤ 600000) (hsl : slots + 46 ≤ 7302250) (hl : lv_has ls 4 [(3, .int (nI (6 * i))), (2, .ref o), (1, .ref (x 0)), (0, .ref b)])
    (kk : ∀ (f2 : Nat → Int32) (n2 : Nat) (H2 : Heap) (locs2 : List Loc) (ls2 : Array Slot), LJ g x a M o q top f2 n2 H2 → va_S (fun z => s.heap.size ≤ z) s.heap H2 locs2 → lv_has ls2 4 [(3, .int (nI (6 * i))), (2, .ref o), (1, .ref (x 0)), (0, .ref b)] → W p l e room_1 s m #[Value.ref b] below meth c H2 locs2 (cells + 3) (slots + 46) Q (F0 m 1216 ls2 [])) : W p l e room_1 s m #[Value.ref b] below meth c H locs cells slots Q (F0 m 421 ls []) := by
  have hx := hC.1
  have hb := hC.2.1
  have hml := hC.2.2.1
  obtain ⟨hX, hR, hG, htop⟩ := hJ
  obtain ⟨⟨hGF, ⟨hV8, hV12⟩, hGT, cn, hcn, hc, hGC⟩, -⟩ := id hG
  have hn4 := hX.1
  obtain ⟨rq, hXB, hXS, hback⟩ := hX.q hc hcn
  refine lv_aload_n hx hb dL_law_421 rfl (lvG hl rfl) ?_
  refine lv_aload_n hx hb dL_law_422 rfl (lvG hl rfl) ?_
  refine lv_iload_n hx hb dL_law_423 rfl (lvG hl rfl) ?_
  refine lv_iconst (v := nI 1) hx hb dL_law_424 (by decide) ?_
  refine n_iadd hC dL_law_425 ?_
  refine l_sld hC hXs hbl hS (show 6 * i + 1 < L by omega) hL dL_law_426 ?_
  refine lv_aload_n hx hb dL_law_427 rfl (lvG hl rfl) ?_
  refine lv_iload_n hx hb dL_law_428 rfl (lvG hl rfl) ?_
  refine lv_iconst (v := nI 2) hx hb dL_law_429 (by decide) ?_
  refine n_iadd hC dL_law_430 ?_
  refine l_sld hC hXs hbl hS (show 6 * i + 2 < L by omega) hL dL_law_431 ?_
  refine k_callPI (k_goV (rest := []) hC hK (c_X4_valve l g x a n f cn rq hc hcn (xs (6 * i + 1)) (xs (6 * i + 2))) L_L_X4_valve ⟨⟨Nat.le_of_ble_eq_true rfl, Nat.le_of_ble_eq_true rfl⟩, ⟨rfl, rfl⟩, ⟨(by show _ ≤ 600000; omega), (by show _ ≤ 7302250; omega)⟩⟩ (hX.recv hK) (hXB) rfl hl.1 rfl (Nat.le_of_ble_eq_true rfl) dL_law_432) ?_
  refine lv_aload_n hx hb dL_law_435 rfl (lvG hl rfl) ?_
  refine lv_aload_n hx hb dL_law_436 rfl (lvG hl rfl) ?_
  refine lv_iload_n hx hb dL_law_437 rfl (lvG hl rfl) ?_
  refine lv_iconst (v := nI 1) hx hb dL_law_438 (by decide) ?_
  refine n_iadd hC dL_law_439 ?_
  refine l_sld hC hXs hbl hS (show 6 * i + 1 < L by omega) hL dL_law_440 ?_
  refine lv_aload_n hx hb dL_law_441 rfl (lvG hl rfl) ?_
  refine lv_iload_n hx hb dL_law_442 rfl (lvG hl rfl) ?_
  refine lv_iconst (v := nI 2) hx hb dL_law_443 (by decide) ?_
  refine n_iadd hC dL_law_444 ?_
  refine l_sld hC hXs hbl hS (show 6 * i + 2 < L by omega) hL dL_law_445 ?_
  refine k_callPI (k_goV (rest := [.int (s_vaR f (xs (6 * i + 1)) (xs (6 * i + 2)))]) hC hK (c_X5_valve l g o q f n (xs (6 * i + 1)) (xs (6 * i + 2))) L_L_X5_valve ⟨⟨Nat.le_of_ble_eq_true rfl, Nat.le_of_ble_eq_true rfl⟩, ⟨rfl, rfl⟩, ⟨(by show _ ≤ 600000; omega), (by show _ ≤ 7302250; omega)⟩⟩ (hR.recv hK) hR rfl hl.1 rfl (Nat.le_of_ble_eq_true rfl) dL_law_446) ?_
  refine lv_icmp_eq (tgt := 1216) hx hb dL_law_449 (by decide) (fun _ => ?_) (fun z => absurd rfl z)
  refine W.widen (k := cells + 3) (n := slots + 46) (by omega) (by omega) ?_
  exact kk f n H _ _ ⟨hX, hR, hG, htop⟩ hS hl
set_option maxHeartbeats 4000000 in
set_option maxRecDepth 100000 in
/-- beginCard -/
theorem law_8 (hC : CallFix p m c cL_law 4 s #[Value.ref b] lw_good RL) (hK : KK g s) (hXs : va_X b L xs s s.heap) (hbl : b < s.heap.size) (hL : L ≤ 3072) (hi : 6 * i + 6 ≤ L) (hc0 : LC x M o q s.heap.size top) (hJ : LJ g x a M o q top f n H) (hS : va_S (fun z => s.heap.size ≤ z) s.heap H locs) (hcl : cells + 3 ≤ 600000) (hsl : slots + 46 ≤ 7302250) (hl : lv_has ls 4 [(3, .int (nI (6 * i))), (2, .ref o), (1, .ref (x 0)), (0, .ref b)])
    (kk : ∀ (f2 : Nat → Int32) (n2 : Nat) (H2 : Heap) (locs2 : List Loc) (ls2 : Array Slot), LJ g x a M o q top f2 n2 H2 → va_S (fun z => s.heap.size ≤ z) s.heap H2 locs2 → lv_has ls2 4 [(3, .int (nI (6 * i))), (2, .ref o), (1, .ref (x 0)), (0, .ref b)] → W p l e room_1 s m #[Value.ref b] below meth c H2 locs2 (cells + 3) (slots + 46) Q (F0 m 1216 ls2 [])) : W p l e room_1 s m #[Value.ref b] below meth c H locs cells slots Q (F0 m 454 ls []) := by
  have hx := hC.1
  have hb := hC.2.1
  have hml := hC.2.2.1
  obtain ⟨hX, hR, hG, htop⟩ := hJ
  obtain ⟨⟨hGF, ⟨hV8, hV12⟩, hGT, cn, hcn, hc, hGC⟩, -⟩ := id hG
  have hn4 := hX.1
  obtain ⟨rq, hXB, hXS, hback⟩ := hX.q hc hcn
  refine lv_aload_n hx hb dL_law_454 rfl (lvG hl rfl) ?_
  refine lv_aload_n hx hb dL_law_455 rfl (lvG hl rfl) ?_
  refine lv_iload_n hx hb dL_law_456 rfl (lvG hl rfl) ?_
  refine lv_iconst (v := nI 1) hx hb dL_law_457 (by decide) ?_
  refine n_iadd hC dL_law_458 ?_
  refine l_sld hC hXs hbl hS (show 6 * i + 1 < L by omega) hL dL_law_459 ?_
  refine lv_aload_n hx hb dL_law_460 rfl (lvG hl rfl) ?_
  refine lv_iload_n hx hb dL_law_461 rfl (lvG hl rfl) ?_
  refine lv_iconst (v := nI 2) hx hb dL_law_462 (by decide) ?_
  refine n_iadd hC dL_law_463 ?_
  refine l_sld hC hXs hbl hS (show 6 * i + 2 < L by omega) hL dL_law_464 ?_
  refine k_callMI0 (k_goV (rest := []) hC hK (c_X4_beginCard l g x a M f n (xs (6 * i + 1)) (xs (6 * i + 2))) L_L_X4_beginCard ⟨⟨Nat.le_of_ble_eq_true rfl, Nat.le_of_ble_eq_true rfl⟩, ⟨rfl, rfl⟩, ⟨(by show _ ≤ 600000; omega), (by show _ ≤ 7302250; omega)⟩⟩ (hX.recv hK) hX rfl hl.1 rfl (Nat.le_of_ble_eq_true rfl) dL_law_465) hS (fun z h => (hc0.2.2 z (Or.inl h)).1) (fun r1 H1 locs1 hq1 hz1 hk1 hS1 => ?_)
  obtain ⟨e1, hX1⟩ := hq1
  have hR1 := hR.kept hk1 (fun c => (hc0.2.1 _ (Or.inl c)).1 rfl) (fun c => (hc0.2.1 _ (Or.inl c)).2 rfl)
  refine lv_aload_n hx hb dL_law_468 rfl (lvG hl rfl) ?_
  refine lv_aload_n hx hb dL_law_469 rfl (lvG hl rfl) ?_
  refine lv_iload_n hx hb dL_law_470 rfl (lvG hl rfl) ?_
  refine lv_iconst (v := nI 1) hx hb dL_law_471 (by decide) ?_
  refine n_iadd hC dL_law_472 ?_
  refine l_sld hC hXs hbl hS1 (show 6 * i + 1 < L by omega) hL dL_law_473 ?_
  refine lv_aload_n hx hb dL_law_474 rfl (lvG hl rfl) ?_
  refine lv_iload_n hx hb dL_law_475 rfl (lvG hl rfl) ?_
  refine lv_iconst (v := nI 2) hx hb dL_law_476 (by decide) ?_
  refine n_iadd hC dL_law_477 ?_
  refine l_sld hC hXs hbl hS1 (show 6 * i + 2 < L by omega) hL dL_law_478 ?_
  refine k_callMI0 (k_goV (rest := [.int (r1)]) hC hK (c_X5_beginCard l g o q f n (xs (6 * i + 1)) (xs (6 * i + 2))) L_L_X5_beginCard ⟨⟨Nat.le_of_ble_eq_true rfl, Nat.le_of_ble_eq_true rfl⟩, ⟨rfl, rfl⟩, ⟨(by show _ ≤ 600000; omega), (by show _ ≤ 7302250; omega)⟩⟩ (hR1.recv hK) hR1 rfl hl.1 rfl (Nat.le_of_ble_eq_true rfl) dL_law_479) hS1 (fun z h => h.elim (fun e => e ▸ hc0.oo.1) (fun e => e ▸ hc0.qq.1)) (fun r2 H2 locs2 hq2 hz2 hk2 hS2 => ?_)
  obtain ⟨e2, hR2⟩ := hq2
  have hX2 := hX1.ref hc0 hk2
  refine lv_icmp_eq (tgt := 1216) hx hb dL_law_482 (by decide) (fun _ => ?_) (fun z => absurd (e1.trans e2.symm) z)
  refine W.widen (k := cells + 3) (n := slots + 46) (by omega) (by omega) ?_
  exact kk _ _ H2 _ _ ⟨hX2, hR2, hG.bc hn4, (Nat.le_trans (Nat.le_trans htop hz1) hz2)⟩ hS2 hl
set_option maxHeartbeats 4000000 in
set_option maxRecDepth 100000 in
/-- setPoint -/
theorem law_9 (hC : CallFix p m c cL_law 4 s #[Value.ref b] lw_good RL) (hK : KK g s) (hXs : va_X b L xs s s.heap) (hbl : b < s.heap.size) (hL : L ≤ 3072) (hi : 6 * i + 6 ≤ L) (hc0 : LC x M o q s.heap.size top) (hJ : LJ g x a M o q top f n H) (hS : va_S (fun z => s.heap.size ≤ z) s.heap H locs) (hcl : cells + 3 ≤ 600000) (hsl : slots + 46 ≤ 7302250) (hl : lv_has ls 4 [(3, .int (nI (6 * i))), (2, .ref o), (1, .ref (x 0)), (0, .ref b)])
    (kk : ∀ (f2 : Nat → Int32) (n2 : Nat) (H2 : Heap) (locs2 : List Loc) (ls2 : Array Slot), LJ g x a M o q top f2 n2 H2 → va_S (fun z => s.heap.size ≤ z) s.heap H2 locs2 → lv_has ls2 4 [(3, .int (nI (6 * i))), (2, .ref o), (1, .ref (x 0)), (0, .ref b)] → W p l e room_1 s m #[Value.ref b] below meth c H2 locs2 (cells + 3) (slots + 46) Q (F0 m 1216 ls2 [])) : W p l e room_1 s m #[Value.ref b] below meth c H locs cells slots Q (F0 m 487 ls []) := by
  have hx := hC.1
  have hb := hC.2.1
  have hml := hC.2.2.1
  obtain ⟨hX, hR, hG, htop⟩ := hJ
  obtain ⟨⟨hGF, ⟨hV8, hV12⟩, hGT, cn, hcn, hc, hGC⟩, -⟩ := id hG
  have hn4 := hX.1
  obtain ⟨rq, hXB, hXS, hback⟩ := hX.q hc hcn
  refine lv_aload_n hx hb dL_law_487 rfl (lvG hl rfl) ?_
  refine lv_aload_n hx hb dL_law_488 rfl (lvG hl rfl) ?_
  refine lv_iload_n hx hb dL_law_489 rfl (lvG hl rfl) ?_
  refine lv_iconst (v := nI 1) hx hb dL_law_490 (by decide) ?_
  refine n_iadd hC dL_law_491 ?_
  refine l_sld hC hXs hbl hS (show 6 * i + 1 < L by omega) hL dL_law_492 ?_
  refine lv_aload_n hx hb dL_law_493 rfl (lvG hl rfl) ?_
  refine lv_iload_n hx hb dL_law_494 rfl (lvG hl rfl) ?_
  refine lv_iconst (v := nI 2) hx hb dL_law_495 (by decide) ?_
  refine n_iadd hC dL_law_496 ?_
  refine l_sld hC hXs hbl hS (show 6 * i + 2 < L by omega) hL dL_law_497 ?_
  refine lv_aload_n hx hb dL_law_498 rfl (lvG hl rfl) ?_
  refine lv_iload_n hx hb dL_law_499 rfl (lvG hl rfl) ?_
  refine lv_iconst (v := nI 3) hx hb dL_law_500 (by decide) ?_
  refine n_iadd hC dL_law_501 ?_
  refine l_sld hC hXs hbl hS (show 6 * i + 3 < L by omega) hL dL_law_502 ?_
  refine k_callMI0 (k_goV (rest := []) hC hK (c_X4_setPoint l g x a M f n (xs (6 * i + 1)) (xs (6 * i + 2)) (xs (6 * i + 3)) (fun k hk => (hGT.2.2 k hk).1)) L_L_X4_setPoint ⟨⟨Nat.le_of_ble_eq_true rfl, Nat.le_of_ble_eq_true rfl⟩, ⟨rfl, rfl⟩, ⟨(by show _ ≤ 600000; omega), (by show _ ≤ 7302250; omega)⟩⟩ (hX.recv hK) hX rfl hl.1 rfl (Nat.le_of_ble_eq_true rfl) dL_law_503) hS (fun z h => (hc0.2.2 z (Or.inl h)).1) (fun r1 H1 locs1 hq1 hz1 hk1 hS1 => ?_)
  obtain ⟨e1, hX1⟩ := hq1
  have hR1 := hR.kept hk1 (fun c => (hc0.2.1 _ (Or.inl c)).1 rfl) (fun c => (hc0.2.1 _ (Or.inl c)).2 rfl)
  refine lv_aload_n hx hb dL_law_506 rfl (lvG hl rfl) ?_
  refine lv_aload_n hx hb dL_law_507 rfl (lvG hl rfl) ?_
  refine lv_iload_n hx hb dL_law_508 rfl (lvG hl rfl) ?_
  refine lv_iconst (v := nI 1) hx hb dL_law_509 (by decide) ?_
  refine n_iadd hC dL_law_510 ?_
  refine l_sld hC hXs hbl hS1 (show 6 * i + 1 < L by omega) hL dL_law_511 ?_
  refine lv_aload_n hx hb dL_law_512 rfl (lvG hl rfl) ?_
  refine lv_iload_n hx hb dL_law_513 rfl (lvG hl rfl) ?_
  refine lv_iconst (v := nI 2) hx hb dL_law_514 (by decide) ?_
  refine n_iadd hC dL_law_515 ?_
  refine l_sld hC hXs hbl hS1 (show 6 * i + 2 < L by omega) hL dL_law_516 ?_
  refine lv_aload_n hx hb dL_law_517 rfl (lvG hl rfl) ?_
  refine lv_iload_n hx hb dL_law_518 rfl (lvG hl rfl) ?_
  refine lv_iconst (v := nI 3) hx hb dL_law_519 (by decide) ?_
  refine n_iadd hC dL_law_520 ?_
  refine l_sld hC hXs hbl hS1 (show 6 * i + 3 < L by omega) hL dL_law_521 ?_
  refine k_callMI0 (k_goV (rest := [.int (r1)]) hC hK (c_X5_setPoint l g o q f n (xs (6 * i + 1)) (xs (6 * i + 2)) (xs (6 * i + 3))) L_L_X5_setPoint ⟨⟨Nat.le_of_ble_eq_true rfl, Nat.le_of_ble_eq_true rfl⟩, ⟨rfl, rfl⟩, ⟨(by show _ ≤ 600000; omega), (by show _ ≤ 7302250; omega)⟩⟩ (hR1.recv hK) hR1 rfl hl.1 rfl (Nat.le_of_ble_eq_true rfl) dL_law_522) hS1 (fun z h => h.elim (fun e => e ▸ hc0.oo.1) (fun e => e ▸ hc0.qq.1)) (fun r2 H2 locs2 hq2 hz2 hk2 hS2 => ?_)
  obtain ⟨e2, hR2⟩ := hq2
  have hX2 := hX1.ref hc0 hk2
  refine lv_icmp_eq (tgt := 1216) hx hb dL_law_525 (by decide) (fun _ => ?_) (fun z => absurd (e1.trans e2.symm) z)
  refine W.widen (k := cells + 3) (n := slots + 46) (by omega) (by omega) ?_
  exact kk _ _ H2 _ _ ⟨hX2, hR2, hG.spt hn4, (Nat.le_trans (Nat.le_trans htop hz1) hz2)⟩ hS2 hl
set_option maxHeartbeats 4000000 in
set_option maxRecDepth 100000 in
/-- finishCard -/
theorem law_10 (hC : CallFix p m c cL_law 4 s #[Value.ref b] lw_good RL) (hK : KK g s) (hXs : va_X b L xs s s.heap) (hbl : b < s.heap.size) (hL : L ≤ 3072) (hi : 6 * i + 6 ≤ L) (hc0 : LC x M o q s.heap.size top) (hJ : LJ g x a M o q top f n H) (hS : va_S (fun z => s.heap.size ≤ z) s.heap H locs) (hcl : cells + 3 ≤ 600000) (hsl : slots + 46 ≤ 7302250) (hl : lv_has ls 4 [(3, .int (nI (6 * i))), (2, .ref o), (1, .ref (x 0)), (0, .ref b)])
    (kk : ∀ (f2 : Nat → Int32) (n2 : Nat) (H2 : Heap) (locs2 : List Loc) (ls2 : Array Slot), LJ g x a M o q top f2 n2 H2 → va_S (fun z => s.heap.size ≤ z) s.heap H2 locs2 → lv_has ls2 4 [(3, .int (nI (6 * i))), (2, .ref o), (1, .ref (x 0)), (0, .ref b)] → W p l e room_1 s m #[Value.ref b] below meth c H2 locs2 (cells + 3) (slots + 46) Q (F0 m 1216 ls2 [])) : W p l e room_1 s m #[Value.ref b] below meth c H locs cells slots Q (F0 m 530 ls []) := by
  have hx := hC.1
  have hb := hC.2.1
  have hml := hC.2.2.1
  obtain ⟨hX, hR, hG, htop⟩ := hJ
  obtain ⟨⟨hGF, ⟨hV8, hV12⟩, hGT, cn, hcn, hc, hGC⟩, -⟩ := id hG
  have hn4 := hX.1
  obtain ⟨rq, hXB, hXS, hback⟩ := hX.q hc hcn
  refine lv_aload_n hx hb dL_law_530 rfl (lvG hl rfl) ?_
  refine k_callMI (k_goV (rest := []) hC hK (c_X4_finishCard l g x a M f n cn hc hcn (fun k hk => hGT.2.2 k hk) (Array.size H) (fun z h => Nat.lt_of_lt_of_le (hc0.2.2 z h).2 htop)) L_L_X4_finishCard ⟨⟨Nat.le_of_ble_eq_true rfl, Nat.le_of_ble_eq_true rfl⟩, ⟨rfl, rfl⟩, ⟨(by show _ ≤ 600000; omega), (by show _ ≤ 7302250; omega)⟩⟩ (hX.recv hK) ⟨rfl, hX⟩ rfl hl.1 rfl (Nat.le_of_ble_eq_true rfl) dL_law_531) hS (fun z h => h.elim (fun h => (hc0.2.2 z (Or.inl h)).1) (fun h => Nat.le_trans hS.1 h)) (fun r1 H1 locs1 hq1 hz1 hk1 hS1 => ?_)
  obtain ⟨e1, hX1⟩ := hq1
  have hR1 := hR.kept hk1 (fun c => c.elim (fun c => (hc0.2.1 _ (Or.inl c)).1 rfl) (fun c => absurd (Nat.lt_of_lt_of_le hc0.oo.2 htop) (Nat.not_lt.mpr c))) (fun c => c.elim (fun c => (hc0.2.1 _ (Or.inl c)).2 rfl) (fun c => absurd (Nat.lt_of_lt_of_le hc0.qq.2 htop) (Nat.not_lt.mpr c)))
  refine lv_aload_n hx hb dL_law_534 rfl (lvG hl rfl) ?_
  refine k_callMI0 (k_goV (rest := [.int (r1)]) hC hK (c_X5_finishCard l g o q f n cn hc hcn) L_L_X5_finishCard ⟨⟨Nat.le_of_ble_eq_true rfl, Nat.le_of_ble_eq_true rfl⟩, ⟨rfl, rfl⟩, ⟨(by show _ ≤ 600000; omega), (by show _ ≤ 7302250; omega)⟩⟩ (hR1.recv hK) hR1 rfl hl.1 rfl (Nat.le_of_ble_eq_true rfl) dL_law_535) hS1 (fun z h => h.elim (fun e => e ▸ hc0.oo.1) (fun e => e ▸ hc0.qq.1)) (fun r2 H2 locs2 hq2 hz2 hk2 hS2 => ?_)
  obtain ⟨e2, hR2⟩ := hq2
  have hX2 := hX1.ref hc0 hk2
  refine lv_icmp_eq (tgt := 1216) hx hb dL_law_538 (by decide) (fun _ => ?_) (fun z => absurd (e1.trans e2.symm) z)
  refine W.widen (k := cells + 3) (n := slots + 46) (by omega) (by omega) ?_
  exact kk _ _ H2 _ _ ⟨hX2, hR2, hG.fc hn4 hc hcn, (Nat.le_trans (Nat.le_trans htop hz1) hz2)⟩ hS2 hl
set_option maxHeartbeats 4000000 in
set_option maxRecDepth 100000 in
/-- addIdealCard -/
theorem law_11 (hC : CallFix p m c cL_law 4 s #[Value.ref b] lw_good RL) (hK : KK g s) (hXs : va_X b L xs s s.heap) (hbl : b < s.heap.size) (hL : L ≤ 3072) (hi : 6 * i + 6 ≤ L) (hc0 : LC x M o q s.heap.size top) (hJ : LJ g x a M o q top f n H) (hS : va_S (fun z => s.heap.size ≤ z) s.heap H locs) (hcl : cells + 3 ≤ 600000) (hsl : slots + 46 ≤ 7302250) (hl : lv_has ls 4 [(3, .int (nI (6 * i))), (2, .ref o), (1, .ref (x 0)), (0, .ref b)])
    (kk : ∀ (f2 : Nat → Int32) (n2 : Nat) (H2 : Heap) (locs2 : List Loc) (ls2 : Array Slot), LJ g x a M o q top f2 n2 H2 → va_S (fun z => s.heap.size ≤ z) s.heap H2 locs2 → lv_has ls2 4 [(3, .int (nI (6 * i))), (2, .ref o), (1, .ref (x 0)), (0, .ref b)] → W p l e room_1 s m #[Value.ref b] below meth c H2 locs2 (cells + 3) (slots + 46) Q (F0 m 1216 ls2 [])) : W p l e room_1 s m #[Value.ref b] below meth c H locs cells slots Q (F0 m 543 ls []) := by
  have hx := hC.1
  have hb := hC.2.1
  have hml := hC.2.2.1
  obtain ⟨hX, hR, hG, htop⟩ := hJ
  obtain ⟨⟨hGF, ⟨hV8, hV12⟩, hGT, cn, hcn, hc, hGC⟩, -⟩ := id hG
  have hn4 := hX.1
  obtain ⟨rq, hXB, hXS, hback⟩ := hX.q hc hcn
  refine lv_aload_n hx hb dL_law_543 rfl (lvG hl rfl) ?_
  refine lv_aload_n hx hb dL_law_544 rfl (lvG hl rfl) ?_
  refine lv_iload_n hx hb dL_law_545 rfl (lvG hl rfl) ?_
  refine lv_iconst (v := nI 1) hx hb dL_law_546 (by decide) ?_
  refine n_iadd hC dL_law_547 ?_
  refine l_sld hC hXs hbl hS (show 6 * i + 1 < L by omega) hL dL_law_548 ?_
  refine lv_aload_n hx hb dL_law_549 rfl (lvG hl rfl) ?_
  refine lv_iload_n hx hb dL_law_550 rfl (lvG hl rfl) ?_
  refine lv_iconst (v := nI 2) hx hb dL_law_551 (by decide) ?_
  refine n_iadd hC dL_law_552 ?_
  refine l_sld hC hXs hbl hS (show 6 * i + 2 < L by omega) hL dL_law_553 ?_
  refine lv_aload_n hx hb dL_law_554 rfl (lvG hl rfl) ?_
  refine lv_iload_n hx hb dL_law_555 rfl (lvG hl rfl) ?_
  refine lv_iconst (v := nI 3) hx hb dL_law_556 (by decide) ?_
  refine n_iadd hC dL_law_557 ?_
  refine l_sld hC hXs hbl hS (show 6 * i + 3 < L by omega) hL dL_law_558 ?_
  refine lv_aload_n hx hb dL_law_559 rfl (lvG hl rfl) ?_
  refine lv_iload_n hx hb dL_law_560 rfl (lvG hl rfl) ?_
  refine lv_iconst (v := nI 4) hx hb dL_law_561 (by decide) ?_
  refine n_iadd hC dL_law_562 ?_
  refine l_sld hC hXs hbl hS (show 6 * i + 4 < L by omega) hL dL_law_563 ?_
  refine k_callMI (k_goV (rest := []) hC hK (c_X4_addIdealCard l g x a M f n cn hc hcn (xs (6 * i + 1)) (xs (6 * i + 2)) (xs (6 * i + 3)) (xs (6 * i + 4)) (Array.size H) (fun z h => Nat.lt_of_lt_of_le (hc0.2.2 z h).2 htop)) L_L_X4_addIdealCard ⟨⟨Nat.le_of_ble_eq_true rfl, Nat.le_of_ble_eq_true rfl⟩, ⟨rfl, rfl⟩, ⟨(by show _ ≤ 600000; omega), (by show _ ≤ 7302250; omega)⟩⟩ (hX.recv hK) ⟨rfl, hX⟩ rfl hl.1 rfl (Nat.le_of_ble_eq_true rfl) dL_law_564) hS (fun z h => h.elim (fun h => (hc0.2.2 z h.u).1) (fun h => Nat.le_trans hS.1 h)) (fun r1 H1 locs1 hq1 hz1 hk1 hS1 => ?_)
  obtain ⟨e1, hX1⟩ := hq1
  have hR1 := hR.kept hk1 (fun c => c.elim (fun c => (hc0.2.1 _ c).1 rfl) (fun c => absurd (Nat.lt_of_lt_of_le hc0.oo.2 htop) (Nat.not_lt.mpr c))) (fun c => c.elim (fun c => (hc0.2.1 _ c).2 rfl) (fun c => absurd (Nat.lt_of_lt_of_le hc0.qq.2 htop) (Nat.not_lt.mpr c)))
  refine lv_aload_n hx hb dL_law_567 rfl (lvG hl rfl) ?_
  refine lv_aload_n hx hb dL_law_568 rfl (lvG hl rfl) ?_
  refine lv_iload_n hx hb dL_law_569 rfl (lvG hl rfl) ?_
  refine lv_iconst (v := nI 1) hx hb dL_law_570 (by decide) ?_
  refine n_iadd hC dL_law_571 ?_
  refine l_sld hC hXs hbl hS1 (show 6 * i + 1 < L by omega) hL dL_law_572 ?_
  refine lv_aload_n hx hb dL_law_573 rfl (lvG hl rfl) ?_
  refine lv_iload_n hx hb dL_law_574 rfl (lvG hl rfl) ?_
  refine lv_iconst (v := nI 2) hx hb dL_law_575 (by decide) ?_
  refine n_iadd hC dL_law_576 ?_
  refine l_sld hC hXs hbl hS1 (show 6 * i + 2 < L by omega) hL dL_law_577 ?_
  refine lv_aload_n hx hb dL_law_578 rfl (lvG hl rfl) ?_
  refine lv_iload_n hx hb dL_law_579 rfl (lvG hl rfl) ?_
  refine lv_iconst (v := nI 3) hx hb dL_law_580 (by decide) ?_
  refine n_iadd hC dL_law_581 ?_
  refine l_sld hC hXs hbl hS1 (show 6 * i + 3 < L by omega) hL dL_law_582 ?_
  refine lv_aload_n hx hb dL_law_583 rfl (lvG hl rfl) ?_
  refine lv_iload_n hx hb dL_law_584 rfl (lvG hl rfl) ?_
  refine lv_iconst (v := nI 4) hx hb dL_law_585 (by decide) ?_
  refine n_iadd hC dL_law_586 ?_
  refine l_sld hC hXs hbl hS1 (show 6 * i + 4 < L by omega) hL dL_law_587 ?_
  refine k_callMI0 (k_goV (rest := [.int (r1)]) hC hK (c_X5_addIdealCard l g o q f n (xs (6 * i + 1)) (xs (6 * i + 2)) (xs (6 * i + 3)) (xs (6 * i + 4)) cn hc hcn (vol_ok hGF.1)) L_L_X5_addIdealCard ⟨⟨Nat.le_of_ble_eq_true rfl, Nat.le_of_ble_eq_true rfl⟩, ⟨rfl, rfl⟩, ⟨(by show _ ≤ 600000; omega), (by show _ ≤ 7302250; omega)⟩⟩ (hR1.recv hK) hR1 rfl hl.1 rfl (Nat.le_of_ble_eq_true rfl) dL_law_588) hS1 (fun z h => h.elim (fun e => e ▸ hc0.oo.1) (fun e => e ▸ hc0.qq.1)) (fun r2 H2 locs2 hq2 hz2 hk2 hS2 => ?_)
  obtain ⟨e2, hR2⟩ := hq2
  have hX2 := hX1.ref hc0 hk2
  have hX2 := hX2.congr (ai_eq (hG.rec hn4).1.1 ⟨hV8, hV12⟩)
  refine lv_icmp_eq (tgt := 1216) hx hb dL_law_591 (by decide) (fun _ => ?_) (fun z => absurd (e1.trans e2.symm) z)
  refine W.widen (k := cells + 3) (n := slots + 46) (by omega) (by omega) ?_
  exact kk _ _ H2 _ _ ⟨hX2, hR2, hG.ai hn4 hc hcn, (Nat.le_trans (Nat.le_trans htop hz1) hz2)⟩ hS2 hl
set_option maxHeartbeats 4000000 in
set_option maxRecDepth 100000 in
/-- removeCard -/
theorem law_12 (hC : CallFix p m c cL_law 4 s #[Value.ref b] lw_good RL) (hK : KK g s) (hXs : va_X b L xs s s.heap) (hbl : b < s.heap.size) (hL : L ≤ 3072) (hi : 6 * i + 6 ≤ L) (hc0 : LC x M o q s.heap.size top) (hJ : LJ g x a M o q top f n H) (hS : va_S (fun z => s.heap.size ≤ z) s.heap H locs) (hcl : cells + 3 ≤ 600000) (hsl : slots + 46 ≤ 7302250) (hl : lv_has ls 4 [(3, .int (nI (6 * i))), (2, .ref o), (1, .ref (x 0)), (0, .ref b)])
    (kk : ∀ (f2 : Nat → Int32) (n2 : Nat) (H2 : Heap) (locs2 : List Loc) (ls2 : Array Slot), LJ g x a M o q top f2 n2 H2 → va_S (fun z => s.heap.size ≤ z) s.heap H2 locs2 → lv_has ls2 4 [(3, .int (nI (6 * i))), (2, .ref o), (1, .ref (x 0)), (0, .ref b)] → W p l e room_1 s m #[Value.ref b] below meth c H2 locs2 (cells + 3) (slots + 46) Q (F0 m 1216 ls2 [])) : W p l e room_1 s m #[Value.ref b] below meth c H locs cells slots Q (F0 m 596 ls []) := by
  have hx := hC.1
  have hb := hC.2.1
  have hml := hC.2.2.1
  obtain ⟨hX, hR, hG, htop⟩ := hJ
  obtain ⟨⟨hGF, ⟨hV8, hV12⟩, hGT, cn, hcn, hc, hGC⟩, -⟩ := id hG
  have hn4 := hX.1
  obtain ⟨rq, hXB, hXS, hback⟩ := hX.q hc hcn
  refine lv_aload_n hx hb dL_law_596 rfl (lvG hl rfl) ?_
  refine lv_aload_n hx hb dL_law_597 rfl (lvG hl rfl) ?_
  refine lv_iload_n hx hb dL_law_598 rfl (lvG hl rfl) ?_
  refine lv_iconst (v := nI 1) hx hb dL_law_599 (by decide) ?_
  refine n_iadd hC dL_law_600 ?_
  refine l_sld hC hXs hbl hS (show 6 * i + 1 < L by omega) hL dL_law_601 ?_
  refine k_callMI0 (k_goV (rest := []) hC hK (c_X4_removeCard l g x a M f n cn hc hcn (xs (6 * i + 1))) L_L_X4_removeCard ⟨⟨Nat.le_of_ble_eq_true rfl, Nat.le_of_ble_eq_true rfl⟩, ⟨rfl, rfl⟩, ⟨(by show _ ≤ 600000; omega), (by show _ ≤ 7302250; omega)⟩⟩ (hX.recv hK) hX rfl hl.1 rfl (Nat.le_of_ble_eq_true rfl) dL_law_602) hS (fun z h => (hc0.2.2 z (Or.inl h)).1) (fun r1 H1 locs1 hq1 hz1 hk1 hS1 => ?_)
  obtain ⟨e1, hX1⟩ := hq1
  have hR1 := hR.kept hk1 (fun c => (hc0.2.1 _ (Or.inl c)).1 rfl) (fun c => (hc0.2.1 _ (Or.inl c)).2 rfl)
  refine lv_aload_n hx hb dL_law_605 rfl (lvG hl rfl) ?_
  refine lv_aload_n hx hb dL_law_606 rfl (lvG hl rfl) ?_
  refine lv_iload_n hx hb dL_law_607 rfl (lvG hl rfl) ?_
  refine lv_iconst (v := nI 1) hx hb dL_law_608 (by decide) ?_
  refine n_iadd hC dL_law_609 ?_
  refine l_sld hC hXs hbl hS1 (show 6 * i + 1 < L by omega) hL dL_law_610 ?_
  refine k_callMI0 (k_goV (rest := [.int (r1)]) hC hK (c_X5_removeCard l g o q f n (xs (6 * i + 1)) cn hc hcn) L_L_X5_removeCard ⟨⟨Nat.le_of_ble_eq_true rfl, Nat.le_of_ble_eq_true rfl⟩, ⟨rfl, rfl⟩, ⟨(by show _ ≤ 600000; omega), (by show _ ≤ 7302250; omega)⟩⟩ (hR1.recv hK) hR1 rfl hl.1 rfl (Nat.le_of_ble_eq_true rfl) dL_law_611) hS1 (fun z h => h.elim (fun e => e ▸ hc0.oo.1) (fun e => e ▸ hc0.qq.1)) (fun r2 H2 locs2 hq2 hz2 hk2 hS2 => ?_)
  obtain ⟨e2, hR2⟩ := hq2
  have hX2 := hX1.ref hc0 hk2
  refine lv_icmp_eq (tgt := 1216) hx hb dL_law_614 (by decide) (fun _ => ?_) (fun z => absurd (e1.trans e2.symm) z)
  refine W.widen (k := cells + 3) (n := slots + 46) (by omega) (by omega) ?_
  exact kk _ _ H2 _ _ ⟨hX2, hR2, hG.rc hn4 hc hcn, (Nat.le_trans (Nat.le_trans htop hz1) hz2)⟩ hS2 hl
end LAW
