def fC_isThere (σ : tp_St) (x1 : Int32) : Option Int32 := (if x1 < 0 then some 0 else (if 12 ≤ x1 then some 0 else (if tp_oob x1 12 then none else (if (σ 0 x1.toNatClampNeg) ≤ 0 then some 0 else some 1))))
def fC_disk (σ : tp_St) (x1 : Int32) (x2 : Int32) : Option (Nat × Int32 × tp_St) := (if x1 < 0 then some (1, 0, σ) else (if x1 < 12 then ((fC_isThere σ x1).bind fun q3 => (if q3 = 0 then (if x2 < 1 then some (3, 0, σ) else (if x2 ≤ 200 then (if tp_oob x1 12 then none else some (0, 0, (tp_up σ 0 x1.toNatClampNeg x2))) else some (3, 0, σ))) else some (2, 0, σ))) else some (1, 0, σ)))
def fC_leastUnusedNumber_L2 (σ : tp_St)  : Nat → Int32 → Option Int32
  | 0, _ => none
  | n2 + 1, x1 => (if 400 ≤ x1 then some (-1) else (if tp_oob x1 400 then none else (if (σ 3 x1.toNatClampNeg) = 0 then some x1 else fC_leastUnusedNumber_L2 σ  n2 (x1 + 1))))
def fC_leastUnusedNumber (σ : tp_St) : Option Int32 := fC_leastUnusedNumber_L2 σ  401 0
def fC_stays (σ : tp_St) (x1 : Int32) : Option Int32 := ((fC_isThere σ x1).bind fun q1 => (if q1 = 0 then some 0 else (if tp_oob x1 12 then none else (if (σ 2 x1.toNatClampNeg) = 0 then some 1 else some 0))))
def fC_freePlaces (σ : tp_St) (x1 : Int32) : Option Int32 := (if tp_oob x1 12 then none else some ((σ 0 x1.toNatClampNeg) - (σ 1 x1.toNatClampNeg)))
def fC_emptiestBut_L7 (σ : tp_St) (x1 : Int32) : Nat → Int32 → Int32 → Int32 → Option Int32
  | 0, _, _, _ => none
  | n7 + 1, x2, x3, x4 => (if 12 ≤ x4 then some x2 else (if x4 = x1 then fC_emptiestBut_L7 σ x1 n7 x2 x3 (x4 + 1) else ((fC_stays σ x4).bind fun q10010 => (if q10010 = 0 then fC_emptiestBut_L7 σ x1 n7 x2 x3 (x4 + 1) else ((fC_freePlaces σ x4).bind fun q10013 => (if q10013 ≤ x3 then fC_emptiestBut_L7 σ x1 n7 x2 x3 (x4 + 1) else ((fC_freePlaces σ x4).bind fun q10016 => fC_emptiestBut_L7 σ x1 n7 x4 q10016 (x4 + 1))))))))
def fC_emptiestBut (σ : tp_St) (x1 : Int32) : Option Int32 := fC_emptiestBut_L7 σ x1 13 (-1) 0 0
def fC_isOn (σ : tp_St) (x1 : Int32) (x2 : Int32) : Option Int32 := (if tp_oob x1 400 then none else (if (σ 4 x1.toNatClampNeg) = x2 then some 1 else (if (σ 5 x1.toNatClampNeg) = x2 then some 1 else some 0)))
def fC_copyForRoom (σ : tp_St) (x1 : Int32) (x2 : Int32) : Option Int32 := ((fC_isOn σ x1 x2).bind fun q1 => (if q1 = 0 then (if tp_oob x1 400 then none else ((fC_stays σ (σ 4 x1.toNatClampNeg)).bind fun q5 => (if q5 = 0 then ((fC_stays σ (σ 5 x1.toNatClampNeg)).bind fun q8 => (if q8 = 0 then some (-1) else some (σ 5 x1.toNatClampNeg))) else some (σ 4 x1.toNatClampNeg)))) else some (-1)))
def fC_otherThan (σ : tp_St) (x1 : Int32) (x2 : Int32) : Option Int32 := (if tp_oob x1 400 then none else (if (σ 4 x1.toNatClampNeg) = x2 then some (σ 5 x1.toNatClampNeg) else some (σ 4 x1.toNatClampNeg)))
def fC_hasLeft (σ : tp_St) (x1 : Int32) : Option Int32 := (if tp_oob x1 12 then none else (if (σ 2 x1.toNatClampNeg) = 0 then some 0 else (if (σ 1 x1.toNatClampNeg) = 0 then some 1 else some 0)))
def fC_takeAway (σ : tp_St) (x1 : Int32) : Option tp_St := (if tp_oob x1 12 then none else some (tp_up (tp_up σ 0 x1.toNatClampNeg 0) 2 x1.toNatClampNeg (vp_nar .boolean 0)))
def fC_dropCopy (σ : tp_St) (x1 : Int32) (x2 : Int32) : Option tp_St := ((fC_otherThan σ x1 x2).bind fun q1 => (if tp_oob x1 400 then none else (if tp_oob x2 12 then none else ((fC_hasLeft (tp_up (tp_up (tp_up σ 4 x1.toNatClampNeg q1) 5 x1.toNatClampNeg (-1)) 1 x2.toNatClampNeg (((tp_up (tp_up σ 4 x1.toNatClampNeg q1) 5 x1.toNatClampNeg (-1)) 1 x2.toNatClampNeg) - 1)) x2).bind fun q5 => (if q5 = 0 then some (tp_up (tp_up (tp_up σ 4 x1.toNatClampNeg q1) 5 x1.toNatClampNeg (-1)) 1 x2.toNatClampNeg (((tp_up (tp_up σ 4 x1.toNatClampNeg q1) 5 x1.toNatClampNeg (-1)) 1 x2.toNatClampNeg) - 1)) else ((fC_takeAway (tp_up (tp_up (tp_up σ 4 x1.toNatClampNeg q1) 5 x1.toNatClampNeg (-1)) 1 x2.toNatClampNeg (((tp_up (tp_up σ 4 x1.toNatClampNeg q1) 5 x1.toNatClampNeg (-1)) 1 x2.toNatClampNeg) - 1)) x2).bind fun q8 => some q8))))))
def fC_addCopy (σ : tp_St) (x1 : Int32) (x2 : Int32) : Option tp_St := (if tp_oob x1 400 then none else (if (σ 4 x1.toNatClampNeg) = (-1) then (if tp_oob x2 12 then none else some (tp_up (tp_up σ 4 x1.toNatClampNeg x2) 1 x2.toNatClampNeg (((tp_up σ 4 x1.toNatClampNeg x2) 1 x2.toNatClampNeg) + 1))) else (if tp_oob x2 12 then none else some (tp_up (tp_up (tp_up σ 4 x1.toNatClampNeg (if x2 < (σ 4 x1.toNatClampNeg) then x2 else (σ 4 x1.toNatClampNeg))) 5 x1.toNatClampNeg (if (σ 4 x1.toNatClampNeg) < x2 then x2 else (σ 4 x1.toNatClampNeg))) 1 x2.toNatClampNeg (((tp_up (tp_up σ 4 x1.toNatClampNeg (if x2 < (σ 4 x1.toNatClampNeg) then x2 else (σ 4 x1.toNatClampNeg))) 5 x1.toNatClampNeg (if (σ 4 x1.toNatClampNeg) < x2 then x2 else (σ 4 x1.toNatClampNeg))) 1 x2.toNatClampNeg) + 1)))))
def fC_moveCopy (σ : tp_St) (x1 : Int32) (x2 : Int32) (x3 : Int32) : Option tp_St := ((fC_dropCopy σ x1 x2).bind fun q1 => ((fC_addCopy q1 x1 x3).bind fun q3 => some q3))
def fC_makeRoomBeside_L2 (x1 : Int32) : Nat → Int32 → tp_St → Option (Int32 × tp_St)
  | 0, _, _ => none
  | n2 + 1, x2, σ2 => (if 400 ≤ x2 then some ((-1), σ2) else ((fC_copyForRoom σ2 x2 x1).bind fun q10004 => (if q10004 = (-1) then fC_makeRoomBeside_L2 x1 n2 (x2 + 1) σ2 else ((fC_moveCopy σ2 x2 q10004 x1).bind fun q10007 => some (q10004, (tp_up q10007 7 0 ((q10007 7 0) + 1)))))))
def fC_makeRoomBeside (σ : tp_St) (x1 : Int32) : Option (Int32 × tp_St) := fC_makeRoomBeside_L2 x1 401 0 σ
def fC_clearWords_L2 (x1 : Int32) : Nat → Int32 → tp_St → Option tp_St
  | 0, _, _ => none
  | n2 + 1, x2, σ2 => (if 4 ≤ x2 then some σ2 else (if tp_oob ((x1 * 4) + x2) 1600 then none else fC_clearWords_L2 x1 n2 (x2 + 1) (tp_up σ2 6 ((x1 * 4) + x2).toNatClampNeg 0)))
def fC_clearWords (σ : tp_St) (x1 : Int32) : Option tp_St := fC_clearWords_L2 x1 5 0 σ
def fC_newChunk (σ : tp_St) : Option (Int32 × tp_St) := ((fC_leastUnusedNumber σ ).bind fun q1 => ((fC_emptiestBut σ (-1)).bind fun q3 => (if q1 = (-1) then some ((-1), σ) else (if q3 = (-1) then some ((-1), σ) else ((fC_emptiestBut σ q3).bind fun q7 => (if q7 = (-1) then ((fC_freePlaces σ q3).bind fun q18 => (if q18 < 2 then (if q7 = (-1) then some ((-1), σ) else (if tp_oob q1 400 then none else ((fC_addCopy (tp_up σ 3 q1.toNatClampNeg (vp_nar .boolean 1)) q1 q3).bind fun q23 => ((fC_addCopy q23 q1 q7).bind fun q25 => ((fC_clearWords q25 q1).bind fun q27 => some (q1, q27)))))) else ((fC_makeRoomBeside σ q3).bind fun q29 => (if q29.1 = (-1) then some ((-1), q29.2) else (if tp_oob q1 400 then none else ((fC_addCopy (tp_up q29.2 3 q1.toNatClampNeg (vp_nar .boolean 1)) q1 q3).bind fun q33 => ((fC_addCopy q33 q1 q29.1).bind fun q35 => ((fC_clearWords q35 q1).bind fun q37 => some (q1, q37))))))))) else (if q7 = (-1) then some ((-1), σ) else (if tp_oob q1 400 then none else ((fC_addCopy (tp_up σ 3 q1.toNatClampNeg (vp_nar .boolean 1)) q1 q3).bind fun q12 => ((fC_addCopy q12 q1 q7).bind fun q14 => ((fC_clearWords q14 q1).bind fun q16 => some (q1, q16))))))))))))
def fC_chunk (σ : tp_St) : Option (Nat × Int32 × tp_St) := ((fC_newChunk σ ).bind fun q1 => (if q1.1 = (-1) then some (4, 0, q1.2) else some (0, q1.1, q1.2)))
def fC_chunks_L22 (x2 : Int32) : Nat → Int32 → tp_St → Option (Nat × Int32 × tp_St)
  | 0, _, _ => none
  | n22 + 1, x3, σ22 => (if x2 ≤ x3 then some (0, x3, σ22) else ((fC_newChunk σ22 ).bind fun q10024 => (if q10024.1 = (-1) then some (0, x3, q10024.2) else fC_chunks_L22 x2 n22 (x3 + 1) q10024.2)))
def fC_chunks (σ : tp_St) (x1 : Int32) : Option (Nat × Int32 × tp_St) := (if 0 ≤ x1 then fC_chunks_L22 (if 400 < x1 then 400 else x1) 401 0 σ else some (3, 0, σ))
def fC_isChunk (σ : tp_St) (x1 : Int32) : Option Int32 := (if x1 < 0 then some 0 else (if 400 ≤ x1 then some 0 else (if tp_oob x1 400 then none else (if (σ 3 x1.toNatClampNeg) = 0 then some 0 else some 1))))
def fC_copiesOf (σ : tp_St) (x1 : Int32) : Option Int32 := (if tp_oob x1 400 then none else (if (σ 4 x1.toNatClampNeg) = (-1) then some 0 else (if (σ 5 x1.toNatClampNeg) = (-1) then some 1 else some 2)))
def fC_free (σ : tp_St) (x1 : Int32) : Option (Nat × Int32 × tp_St) := ((fC_isChunk σ x1).bind fun q1 => (if q1 = 0 then some (1, 0, σ) else ((fC_copiesOf σ x1).bind fun q4 => (if tp_oob x1 400 then none else (if (σ 5 x1.toNatClampNeg) = (-1) then (if (σ 4 x1.toNatClampNeg) = (-1) then some (0, q4, (tp_up σ 3 x1.toNatClampNeg (vp_nar .boolean 0))) else ((fC_dropCopy σ x1 (σ 4 x1.toNatClampNeg)).bind fun q9 => some (0, q4, (tp_up q9 3 x1.toNatClampNeg (vp_nar .boolean 0))))) else ((fC_dropCopy σ x1 (σ 5 x1.toNatClampNeg)).bind fun q11 => (if (q11 4 x1.toNatClampNeg) = (-1) then some (0, q4, (tp_up q11 3 x1.toNatClampNeg (vp_nar .boolean 0))) else ((fC_dropCopy q11 x1 (q11 4 x1.toNatClampNeg)).bind fun q14 => some (0, q4, (tp_up q14 3 x1.toNatClampNeg (vp_nar .boolean 0)))))))))))
def fC_write (σ : tp_St) (x1 : Int32) (x2 : Int32) (x3 : Int32) : Option (Nat × Int32 × tp_St) := ((fC_isChunk σ x1).bind fun q1 => (if q1 = 0 then some (1, 0, σ) else (if x2 < 0 then some (1, 0, σ) else (if x2 < 4 then ((fC_copiesOf σ x1).bind fun q6 => (if q6 = 0 then some (2, 0, σ) else (if tp_oob ((x1 * 4) + x2) 1600 then none else some (0, 0, (tp_up σ 6 ((x1 * 4) + x2).toNatClampNeg x3))))) else some (1, 0, σ)))))
def fC_read (σ : tp_St) (x1 : Int32) (x2 : Int32) : Option (Nat × Int32 × tp_St) := ((fC_isChunk σ x1).bind fun q1 => (if q1 = 0 then some (1, 0, σ) else (if x2 < 0 then some (1, 0, σ) else (if x2 < 4 then ((fC_copiesOf σ x1).bind fun q6 => (if q6 = 0 then some (2, 0, σ) else (if tp_oob ((x1 * 4) + x2) 1600 then none else some (0, (σ 6 ((x1 * 4) + x2).toNatClampNeg), σ)))) else some (1, 0, σ)))))
def fC_fail_L25 (x1 : Int32) (x2 : Int32) : Nat → Int32 → tp_St → Option (Nat × Int32 × tp_St)
  | 0, _, _ => none
  | n25 + 1, x3, σ25 => (if 400 ≤ x3 then ((fC_takeAway σ25 x1).bind fun q10027 => some (0, x2, q10027)) else ((fC_isOn σ25 x3 x1).bind fun q10029 => (if q10029 = 0 then fC_fail_L25 x1 x2 n25 (x3 + 1) σ25 else ((fC_dropCopy σ25 x3 x1).bind fun q10032 => fC_fail_L25 x1 x2 n25 (x3 + 1) q10032))))
def fC_fail (σ : tp_St) (x1 : Int32) : Option (Nat × Int32 × tp_St) := ((fC_isThere σ x1).bind fun q1 => (if q1 = 0 then some (1, 0, σ) else (if tp_oob x1 12 then none else fC_fail_L25 x1 (σ 1 x1.toNatClampNeg) 401 0 σ)))
def fC_chunksWith_L4 (σ : tp_St) (x1 : Int32) : Nat → Int32 → Int32 → Option Int32
  | 0, _, _ => none
  | n4 + 1, x2, x3 => (if 400 ≤ x3 then some x2 else (if tp_oob x3 400 then none else (if (σ 3 x3.toNatClampNeg) = 0 then fC_chunksWith_L4 σ x1 n4 x2 (x3 + 1) else ((fC_copiesOf σ x3).bind fun q10008 => (if q10008 = x1 then fC_chunksWith_L4 σ x1 n4 (x2 + 1) (x3 + 1) else fC_chunksWith_L4 σ x1 n4 x2 (x3 + 1))))))
def fC_chunksWith (σ : tp_St) (x1 : Int32) : Option Int32 := fC_chunksWith_L4 σ x1 401 0 0
def fC_allChunks_L4 (σ : tp_St)  : Nat → Int32 → Int32 → Option Int32
  | 0, _, _ => none
  | n4 + 1, x1, x2 => (if 400 ≤ x2 then some x1 else (if tp_oob x2 400 then none else (if (σ 3 x2.toNatClampNeg) = 0 then fC_allChunks_L4 σ  n4 x1 (x2 + 1) else fC_allChunks_L4 σ  n4 (x1 + 1) (x2 + 1))))
def fC_allChunks (σ : tp_St) : Option Int32 := fC_allChunks_L4 σ  401 0 0
def fC_capacityWithout_L7 (σ : tp_St) (x1 : Int32) : Nat → Int32 → Int32 → Int32 → Option Int32
  | 0, _, _, _ => none
  | n7 + 1, x2, x3, x4 => (if 12 ≤ x4 then some (if (x2 - x3) < (x2 / 2) then (x2 - x3) else (x2 / 2)) else (if x4 = x1 then fC_capacityWithout_L7 σ x1 n7 x2 x3 (x4 + 1) else ((fC_stays σ x4).bind fun q10010 => (if q10010 = 0 then fC_capacityWithout_L7 σ x1 n7 x2 x3 (x4 + 1) else (if tp_oob x4 12 then none else fC_capacityWithout_L7 σ x1 n7 (x2 + (σ 0 x4.toNatClampNeg)) (if x3 < (σ 0 x4.toNatClampNeg) then (σ 0 x4.toNatClampNeg) else x3) (x4 + 1))))))
def fC_capacityWithout (σ : tp_St) (x1 : Int32) : Option Int32 := fC_capacityWithout_L7 σ x1 13 0 0 0
def fC_leave (σ : tp_St) (x1 : Int32) : Option (Nat × Int32 × tp_St) := ((fC_isThere σ x1).bind fun q1 => (if q1 = 0 then some (1, 0, σ) else (if tp_oob x1 12 then none else (if (σ 2 x1.toNatClampNeg) = 0 then ((fC_chunksWith σ 2).bind fun q6 => ((fC_allChunks σ ).bind fun q8 => (if q8 ≤ q6 then ((fC_allChunks σ ).bind fun q11 => ((fC_capacityWithout σ x1).bind fun q13 => (if q11 ≤ q13 then ((fC_hasLeft (tp_up σ 2 x1.toNatClampNeg (vp_nar .boolean 1)) x1).bind fun q16 => (if q16 = 0 then some (0, ((tp_up σ 2 x1.toNatClampNeg (vp_nar .boolean 1)) 1 x1.toNatClampNeg), (tp_up σ 2 x1.toNatClampNeg (vp_nar .boolean 1))) else ((fC_takeAway (tp_up σ 2 x1.toNatClampNeg (vp_nar .boolean 1)) x1).bind fun q19 => some (0, ((tp_up σ 2 x1.toNatClampNeg (vp_nar .boolean 1)) 1 x1.toNatClampNeg), q19)))) else some (4, 0, σ)))) else some (2, 0, σ)))) else some (2, 0, σ)))))
def fC_stay (σ : tp_St) (x1 : Int32) : Option (Nat × Int32 × tp_St) := ((fC_isThere σ x1).bind fun q1 => (if q1 = 0 then some (1, 0, σ) else (if tp_oob x1 12 then none else (if (σ 2 x1.toNatClampNeg) = 0 then some (2, 0, σ) else some (0, 0, (tp_up σ 2 x1.toNatClampNeg (vp_nar .boolean 0)))))))
def fC_isDegraded (σ : tp_St) (x1 : Int32) : Option Int32 := ((fC_copiesOf σ x1).bind fun q1 => (if q1 = 1 then some 1 else some 0))
def fC_mendOne_L2  : Nat → Int32 → tp_St → Option (Int32 × tp_St)
  | 0, _, _ => none
  | n2 + 1, x1, σ2 => (if 400 ≤ x1 then some (0, σ2) else ((fC_isDegraded σ2 x1).bind fun q10004 => (if q10004 = 0 then fC_mendOne_L2  n2 (x1 + 1) σ2 else (if tp_oob x1 400 then none else ((fC_emptiestBut σ2 (σ2 4 x1.toNatClampNeg)).bind fun q10008 => (if q10008 = (-1) then fC_mendOne_L2  n2 (x1 + 1) σ2 else ((fC_addCopy σ2 x1 q10008).bind fun q10011 => some (1, q10011))))))))
def fC_mendOne (σ : tp_St) : Option (Int32 × tp_St) := fC_mendOne_L2  401 0 σ
def fC_staysWithRoom (σ : tp_St) (x1 : Int32) : Option Int32 := ((fC_stays σ x1).bind fun q1 => (if q1 = 0 then some 0 else ((fC_freePlaces σ x1).bind fun q4 => (if q4 ≤ 0 then some 0 else some 1))))
def fC_makeRoomToMend_L2  : Nat → Int32 → tp_St → Option (Int32 × tp_St)
  | 0, _, _ => none
  | n2 + 1, x1, σ2 => (if 400 ≤ x1 then some (0, σ2) else ((fC_isDegraded σ2 x1).bind fun q10004 => (if q10004 = 0 then fC_makeRoomToMend_L2  n2 (x1 + 1) σ2 else (if tp_oob x1 400 then none else ((fC_staysWithRoom σ2 (σ2 4 x1.toNatClampNeg)).bind fun q10008 => (if q10008 = 0 then fC_makeRoomToMend_L2  n2 (x1 + 1) σ2 else ((fC_makeRoomBeside σ2 (σ2 4 x1.toNatClampNeg)).bind fun q10011 => (if q10011.1 = (-1) then some (0, q10011.2) else some (1, q10011.2)))))))))
def fC_makeRoomToMend (σ : tp_St) : Option (Int32 × tp_St) := fC_makeRoomToMend_L2  401 0 σ
def fC_moveOneOffDisk_L2 (x1 : Int32) : Nat → Int32 → tp_St → Option (Int32 × tp_St)
  | 0, _, _ => none
  | n2 + 1, x2, σ2 => (if 400 ≤ x2 then some (0, σ2) else ((fC_isOn σ2 x2 x1).bind fun q10004 => (if q10004 = 0 then fC_moveOneOffDisk_L2 x1 n2 (x2 + 1) σ2 else ((fC_otherThan σ2 x2 x1).bind fun q10007 => ((fC_emptiestBut σ2 q10007).bind fun q10009 => (if q10009 = (-1) then fC_moveOneOffDisk_L2 x1 n2 (x2 + 1) σ2 else ((fC_moveCopy σ2 x2 x1 q10009).bind fun q10012 => some (1, q10012))))))))
def fC_moveOneOffDisk (σ : tp_St) (x1 : Int32) : Option (Int32 × tp_St) := fC_moveOneOffDisk_L2 x1 401 0 σ
def fC_moveOneOff_L2  : Nat → Int32 → tp_St → Option (Int32 × tp_St)
  | 0, _, _ => none
  | n2 + 1, x1, σ2 => (if 12 ≤ x1 then some (0, σ2) else (if tp_oob x1 12 then none else (if (σ2 2 x1.toNatClampNeg) = 0 then fC_moveOneOff_L2  n2 (x1 + 1) σ2 else ((fC_moveOneOffDisk σ2 x1).bind fun q10006 => (if q10006.1 = 0 then fC_moveOneOff_L2  n2 (x1 + 1) q10006.2 else some (1, q10006.2))))))
def fC_moveOneOff (σ : tp_St) : Option (Int32 × tp_St) := fC_moveOneOff_L2  13 0 σ
def fC_otherDiskWithRoom_L2 (σ : tp_St) (x1 : Int32) : Nat → Int32 → Option Int32
  | 0, _ => none
  | n2 + 1, x2 => (if 400 ≤ x2 then some (-1) else ((fC_isOn σ x2 x1).bind fun q10004 => (if q10004 = 0 then fC_otherDiskWithRoom_L2 σ x1 n2 (x2 + 1) else ((fC_otherThan σ x2 x1).bind fun q10007 => ((fC_staysWithRoom σ q10007).bind fun q10009 => (if q10009 = 0 then fC_otherDiskWithRoom_L2 σ x1 n2 (x2 + 1) else ((fC_otherThan σ x2 x1).bind fun q10012 => some q10012)))))))
def fC_otherDiskWithRoom (σ : tp_St) (x1 : Int32) : Option Int32 := fC_otherDiskWithRoom_L2 σ x1 401 0
def fC_makeRoomToMoveOff_L2  : Nat → Int32 → tp_St → Option (Int32 × tp_St)
  | 0, _, _ => none
  | n2 + 1, x1, σ2 => (if 12 ≤ x1 then some (0, σ2) else (if tp_oob x1 12 then none else (if (σ2 2 x1.toNatClampNeg) = 0 then fC_makeRoomToMoveOff_L2  n2 (x1 + 1) σ2 else ((fC_otherDiskWithRoom σ2 x1).bind fun q10006 => (if q10006 = (-1) then fC_makeRoomToMoveOff_L2  n2 (x1 + 1) σ2 else ((fC_makeRoomBeside σ2 q10006).bind fun q10009 => (if q10009.1 = (-1) then some (0, q10009.2) else some (1, q10009.2))))))))
def fC_makeRoomToMoveOff (σ : tp_St) : Option (Int32 × tp_St) := fC_makeRoomToMoveOff_L2  13 0 σ
def fC_nextStep (σ : tp_St) : Option (Int32 × tp_St) := ((fC_mendOne σ ).bind fun q1 => (if q1.1 = 0 then ((fC_makeRoomToMend q1.2 ).bind fun q4 => (if q4.1 = 0 then ((fC_moveOneOff q4.2 ).bind fun q7 => (if q7.1 = 0 then ((fC_makeRoomToMoveOff q7.2 ).bind fun q10 => (if q10.1 = 0 then some (0, q10.2) else some (4, q10.2))) else some (3, q7.2))) else some (2, q4.2))) else some (1, q1.2)))
def fC_step (σ : tp_St) : Option (Int32 × tp_St) := ((fC_nextStep σ ).bind fun q1 => some (q1.1, q1.2))
def fC_steps_L21 (x2 : Int32) : Nat → Int32 → tp_St → Option (Nat × Int32 × tp_St)
  | 0, _, _ => none
  | n21 + 1, x3, σ21 => (if x2 ≤ x3 then some (0, x3, σ21) else ((fC_nextStep σ21 ).bind fun q10023 => (if q10023.1 = 0 then some (0, x3, q10023.2) else fC_steps_L21 x2 n21 (x3 + 1) q10023.2)))
def fC_steps (σ : tp_St) (x1 : Int32) : Option (Nat × Int32 × tp_St) := (if 0 ≤ x1 then fC_steps_L21 (if 1000000 < x1 then 1000000 else x1) 1000001 0 σ else some (3, 0, σ))
def fC_place (σ : tp_St) (x1 : Int32) (x2 : Int32) : Option (Nat × Int32 × tp_St) := ((fC_isChunk σ x1).bind fun q1 => (if q1 = 0 then some (1, 0, σ) else (if x2 = 0 then (if tp_oob x1 400 then none else some (0, (σ 4 x1.toNatClampNeg), σ)) else (if tp_oob x1 400 then none else some (0, (σ 5 x1.toNatClampNeg), σ)))))
def fC_leastChunkOn_L2 (σ : tp_St) (x1 : Int32) : Nat → Int32 → Option Int32
  | 0, _ => none
  | n2 + 1, x2 => (if 400 ≤ x2 then some (-1) else ((fC_isOn σ x2 x1).bind fun q10004 => (if q10004 = 0 then fC_leastChunkOn_L2 σ x1 n2 (x2 + 1) else some x2)))
def fC_leastChunkOn (σ : tp_St) (x1 : Int32) : Option Int32 := fC_leastChunkOn_L2 σ x1 401 0
def fC_about (σ : tp_St) (x1 : Int32) (x2 : Int32) : Option (Nat × Int32 × tp_St) := ((fC_isThere σ x1).bind fun q1 => (if q1 = 0 then some (1, 0, σ) else (if x2 = 0 then (if tp_oob x1 12 then none else some (0, (σ 0 x1.toNatClampNeg), σ)) else (if x2 = 1 then ((fC_freePlaces σ x1).bind fun q7 => some (0, q7, σ)) else (if x2 = 2 then (if tp_oob x1 12 then none else (if (σ 2 x1.toNatClampNeg) = 0 then some (0, 0, σ) else some (0, 1, σ))) else (if x2 = 3 then ((fC_leastChunkOn σ x1).bind fun q13 => some (0, q13, σ)) else some (3, 0, σ)))))))
def fC_disksThere_L4 (σ : tp_St)  : Nat → Int32 → Int32 → Option Int32
  | 0, _, _ => none
  | n4 + 1, x1, x2 => (if 12 ≤ x2 then some x1 else ((fC_isThere σ x2).bind fun q10006 => (if q10006 = 0 then fC_disksThere_L4 σ  n4 x1 (x2 + 1) else fC_disksThere_L4 σ  n4 (x1 + 1) (x2 + 1))))
def fC_disksThere (σ : tp_St) : Option Int32 := fC_disksThere_L4 σ  13 0 0
def fC_copiesOnLeaving_L4 (σ : tp_St)  : Nat → Int32 → Int32 → Option Int32
  | 0, _, _ => none
  | n4 + 1, x1, x2 => (if 12 ≤ x2 then some x1 else (if tp_oob x2 12 then none else (if (σ 2 x2.toNatClampNeg) = 0 then fC_copiesOnLeaving_L4 σ  n4 x1 (x2 + 1) else fC_copiesOnLeaving_L4 σ  n4 (x1 + (σ 1 x2.toNatClampNeg)) (x2 + 1))))
def fC_copiesOnLeaving (σ : tp_St) : Option Int32 := fC_copiesOnLeaving_L4 σ  13 0 0
def fC_count (σ : tp_St) (x1 : Int32) : Option (Nat × Int32 × tp_St) := (if x1 = 0 then ((fC_disksThere σ ).bind fun q2 => some (0, q2, σ)) else (if x1 = 1 then ((fC_allChunks σ ).bind fun q5 => some (0, q5, σ)) else (if x1 = 2 then ((fC_capacityWithout σ (-1)).bind fun q8 => some (0, q8, σ)) else (if x1 = 3 then ((fC_chunksWith σ 1).bind fun q11 => some (0, q11, σ)) else (if x1 = 4 then ((fC_chunksWith σ 0).bind fun q14 => some (0, q14, σ)) else (if x1 = 5 then ((fC_copiesOnLeaving σ ).bind fun q17 => some (0, q17, σ)) else (if x1 = 6 then some (0, (σ 7 0), σ) else some (3, 0, σ))))))))
