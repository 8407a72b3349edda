section
abbrev tp_St : Type := Nat → Nat → Int32
def tp_up (σ : tp_St) (f k : Nat) (x : Int32) : tp_St := fun g => if g = f then upd (σ f) k x else σ g
abbrev tp_oob (i : Int32) (n : Nat) : Prop := i < 0 ∨ n ≤ i.toNatClampNeg
end
section
def fC_isThere (σ : tp_St) (x1 : Int32) : Option Int32 := (if x1 < 0 then some 0 else (if 12 ≤ x1 then some 0 else (if tp_oob x1 12 then none else (if (σ 0 x1.toNatClampNeg) ≤ 0 then some 0 else some 1))))
def fC_disk (σ : tp_St) (x1 : Int32) (x2 : Int32) : Option (Nat × Int32 × tp_St) := (if x1 < 0 then some (1, 0, σ) else (if x1 < 12 then ((fC_isThere σ x1).bind fun q3 => (if q3 = 0 then (if x2 < 1 then some (3, 0, σ) else (if x2 ≤ 200 then (if tp_oob x1 12 then none else some (0, 0, (tp_up σ 0 x1.toNatClampNeg x2))) else some (3, 0, σ))) else some (2, 0, σ))) else some (1, 0, σ)))
def fC_leastUnusedNumber_L2 (σ : tp_St)  : Nat → Int32 → Option Int32
  | 0, _ => none
  | n2 + 1, x1 => (if 400 ≤ x1 then some (-1) else (if tp_oob x1 400 then none else (if (σ 3 x1.toNatClampNeg) = 0 then some x1 else fC_leastUnusedNumber_L2 σ  n2 (x1 + 1))))
def fC_leastUnusedNumber (σ : tp_St) : Option Int32 := fC_leastUnusedNumber_L2 σ  401 0
def fC_stays (σ : tp_St) (x1 : Int32) : Option Int32 := ((fC_isThere σ x1).bind fun q1 => (if q1 = 0 then some 0 else (if tp_oob x1 12 then none else (if (σ 2 x1.toNatClampNeg) = 0 then some 1 else some 0))))
def fC_freePlaces (σ : tp_St) (x1 : Int32) : Option Int32 := (if tp_oob x1 12 then none else some ((σ 0 x1.toNatClampNeg) - (σ 1 x1.toNatClampNeg)))
def fC_emptiestBut_L7 (σ : tp_St) (x1 : Int32) : Nat → Int32 → Int32 → Int32 → Option Int32
  | 0, _, _, _ => none
  | n7 + 1, x2, x3, x4 => (if 12 ≤ x4 then some x2 else (if x4 = x1 then fC_emptiestBut_L7 σ x1 n7 x2 x3 (x4 + 1) else ((fC_stays σ x4).bind fun q10010 => (if q10010 = 0 then fC_emptiestBut_L7 σ x1 n7 x2 x3 (x4 + 1) else ((fC_freePlaces σ x4).bind fun q10013 => (if q10013 ≤ x3 then fC_emptiestBut_L7 σ x1 n7 x2 x3 (x4 + 1) else ((fC_freePlaces σ x4).bind fun q10016 => fC_emptiestBut_L7 σ x1 n7 x4 q10016 (x4 + 1))))))))
def fC_emptiestBut (σ : tp_St) (x1 : Int32) : Option Int32 := fC_emptiestBut_L7 σ x1 13 (-1) 0 0
def fC_isOn (σ : tp_St) (x1 : Int32) (x2 : Int32) : Option Int32 := (if tp_oob x1 400 then none else (if (σ 4 x1.toNatClampNeg) = x2 then some 1 else (if (σ 5 x1.toNatClampNeg) = x2 then some 1 else some 0)))
def fC_copyForRoom (σ : tp_St) (x1 : Int32) (x2 : Int32) : Option Int32 := ((fC_isOn σ x1 x2).bind fun q1 => (if q1 = 0 then (if tp_oob x1 400 then none else ((fC_stays σ (σ 4 x1.toNatClampNeg)).bind fun q5 => (if q5 = 0 then ((fC_stays σ (σ 5 x1.toNatClampNeg)).bind fun q8 => (if q8 = 0 then some (-1) else some (σ 5 x1.toNatClampNeg))) else some (σ 4 x1.toNatClampNeg)))) else some (-1)))
def fC_otherThan (σ : tp_St) (x1 : Int32) (x2 : Int32) : Option Int32 := (if tp_oob x1 400 then none else (if (σ 4 x1.toNatClampNeg) = x2 then some (σ 5 x1.toNatClampNeg) else some (σ 4 x1.toNatClampNeg)))
def fC_hasLeft (σ : tp_St) (x1 : Int32) : Option Int32 := (if tp_oob x1 12 then none else (if (σ 2 x1.toNatClampNeg) = 0 then some 0 else (if (σ 1 x1.toNatClampNeg) = 0 then some 1 else some 0)))
def fC_takeAway (σ : tp_St) (x1 : Int32) : Option tp_St := (if tp_oob x1 12 then none else some (tp_up (tp_up σ 0 x1.toNatClampNeg 0) 2 x1.toNatClampNeg (vp_nar .boolean 0)))
def fC_dropCopy (σ : tp_St) (x1 : Int32) (x2 : Int32) : Option tp_St := ((fC_otherThan σ x1 x2).bind fun q1 => (if tp_oob x1 400 then none else (if tp_oob x2 12 then none else ((fC_hasLeft (tp_up (tp_up (tp_up σ 4 x1.toNatClampNeg q1) 5 x1.toNatClampNeg (-1)) 1 x2.toNatClampNeg (((tp_up (tp_up σ 4 x1.toNatClampNeg q1) 5 x1.toNatClampNeg (-1)) 1 x2.toNatClampNeg) - 1)) x2).bind fun q5 => (if q5 = 0 then some (tp_up (tp_up (tp_up σ 4 x1.toNatClampNeg q1) 5 x1.toNatClampNeg (-1)) 1 x2.toNatClampNeg (((tp_up (tp_up σ 4 x1.toNatClampNeg q1) 5 x1.toNatClampNeg (-1)) 1 x2.toNatClampNeg) - 1)) else ((fC_takeAway (tp_up (tp_up (tp_up σ 4 x1.toNatClampNeg q1) 5 x1.toNatClampNeg (-1)) 1 x2.toNatClampNeg (((tp_up (tp_up σ 4 x1.toNatClampNeg q1) 5 x1.toNatClampNeg (-1)) 1 x2.toNatClampNeg) - 1)) x2).bind fun q8 => some q8))))))
def fC_addCopy (σ : tp_St) (x1 : Int32) (x2 : Int32) : Option tp_St := (if tp_oob x1 400 then none else (if (σ 4 x1.toNatClampNeg) = (-1) then (if tp_oob x2 12 then none else some (tp_up (tp_up σ 4 x1.toNatClampNeg x2) 1 x2.toNatClampNeg (((tp_up σ 4 x1.toNatClampNeg x2) 1 x2.toNatClampNeg) + 1))) else (if tp_oob x2 12 then none else some (tp_up (tp_up (tp_up σ 4 x1.toNatClampNeg (if x2 < (σ 4 x1.toNatClampNeg) then x2 else (σ 4 x1.toNatClampNeg))) 5 x1.toNatClampNeg (if (σ 4 x1.toNatClampNeg) < x2 then x2 else (σ 4 x1.toNatClampNeg))) 1 x2.toNatClampNeg (((tp_up (tp_up σ 4 x1.toNatClampNeg (if x2 < (σ 4 x1.toNatClampNeg) then x2 else (σ 4 x1.toNatClampNeg))) 5 x1.toNatClampNeg (if (σ 4 x1.toNatClampNeg) < x2 then x2 else (σ 4 x1.toNatClampNeg))) 1 x2.toNatClampNeg) + 1)))))
def fC_moveCopy (σ : tp_St) (x1 : Int32) (x2 : Int32) (x3 : Int32) : Option tp_St := ((fC_dropCopy σ x1 x2).bind fun q1 => ((fC_addCopy q1 x1 x3).bind fun q3 => some q3))
def fC_makeRoomBeside_L2 (x1 : Int32) : Nat → Int32 → tp_St → Option (Int32 × tp_St)
  | 0, _, _ => none
  | n2 + 1, x2, σ2 => (if 400 ≤ x2 then some ((-1), σ2) else ((fC_copyForRoom σ2 x2 x1).bind fun q10004 => (if q10004 = (-1) then fC_makeRoomBeside_L2 x1 n2 (x2 + 1) σ2 else ((fC_moveCopy σ2 x2 q10004 x1).bind fun q10007 => some (q10004, (tp_up q10007 7 0 ((q10007 7 0) + 1)))))))
def fC_makeRoomBeside (σ : tp_St) (x1 : Int32) : Option (Int32 × tp_St) := fC_makeRoomBeside_L2 x1 401 0 σ
def fC_clearWords_L2 (x1 : Int32) : Nat → Int32 → tp_St → Option tp_St
  | 0, _, _ => none
  | n2 + 1, x2, σ2 => (if 4 ≤ x2 then some σ2 else (if tp_oob ((x1 * 4) + x2) 1600 then none else fC_clearWords_L2 x1 n2 (x2 + 1) (tp_up σ2 6 ((x1 * 4) + x2).toNatClampNeg 0)))
def fC_clearWords (σ : tp_St) (x1 : Int32) : Option tp_St := fC_clearWords_L2 x1 5 0 σ
def fC_newChunk (σ : tp_St) : Option (Int32 × tp_St) := ((fC_leastUnusedNumber σ ).bind fun q1 => ((fC_emptiestBut σ (-1)).bind fun q3 => (if q1 = (-1) then some ((-1), σ) else (if q3 = (-1) then some ((-1), σ) else ((fC_emptiestBut σ q3).bind fun q7 => (if q7 = (-1) then ((fC_freePlaces σ q3).bind fun q18 => (if q18 < 2 then (if q7 = (-1) then some ((-1), σ) else (if tp_oob q1 400 then none else ((fC_addCopy (tp_up σ 3 q1.toNatClampNeg (vp_nar .boolean 1)) q1 q3).bind fun q23 => ((fC_addCopy q23 q1 q7).bind fun q25 => ((fC_clearWords q25 q1).bind fun q27 => some (q1, q27)))))) else ((fC_makeRoomBeside σ q3).bind fun q29 => (if q29.1 = (-1) then some ((-1), q29.2) else (if tp_oob q1 400 then none else ((fC_addCopy (tp_up q29.2 3 q1.toNatClampNeg (vp_nar .boolean 1)) q1 q3).bind fun q33 => ((fC_addCopy q33 q1 q29.1).bind fun q35 => ((fC_clearWords q35 q1).bind fun q37 => some (q1, q37))))))))) else (if q7 = (-1) then some ((-1), σ) else (if tp_oob q1 400 then none else ((fC_addCopy (tp_up σ 3 q1.toNatClampNeg (vp_nar .boolean 1)) q1 q3).bind fun q12 => ((fC_addCopy q12 q1 q7).bind fun q14 => ((fC_clearWords q14 q1).bind fun q16 => some (q1, q16))))))))))))
def fC_chunk (σ : tp_St) : Option (Nat × Int32 × tp_St) := ((fC_newChunk σ ).bind fun q1 => (if q1.1 = (-1) then some (4, 0, q1.2) else some (0, q1.1, q1.2)))
def fC_chunks_L22 (x2 : Int32) : Nat → Int32 → tp_St → Option (Nat × Int32 × tp_St)
  | 0, _, _ => none
  | n22 + 1, x3, σ22 => (if x2 ≤ x3 then some (0, x3, σ22) else ((fC_newChunk σ22 ).bind fun q10024 => (if q10024.1 = (-1) then some (0, x3, q10024.2) else fC_chunks_L22 x2 n22 (x3 + 1) q10024.2)))
def fC_chunks (σ : tp_St) (x1 : Int32) : Option (Nat × Int32 × tp_St) := (if 0 ≤ x1 then fC_chunks_L22 (if 400 < x1 then 400 else x1) 401 0 σ else some (3, 0, σ))
def fC_isChunk (σ : tp_St) (x1 : Int32) : Option Int32 := (if x1 < 0 then some 0 else (if 400 ≤ x1 then some 0 else (if tp_oob x1 400 then none else (if (σ 3 x1.toNatClampNeg) = 0 then some 0 else some 1))))
def fC_copiesOf (σ : tp_St) (x1 : Int32) : Option Int32 := (if tp_oob x1 400 then none else (if (σ 4 x1.toNatClampNeg) = (-1) then some 0 else (if (σ 5 x1.toNatClampNeg) = (-1) then some 1 else some 2)))
def fC_free (σ : tp_St) (x1 : Int32) : Option (Nat × Int32 × tp_St) := ((fC_isChunk σ x1).bind fun q1 => (if q1 = 0 then some (1, 0, σ) else ((fC_copiesOf σ x1).bind fun q4 => (if tp_oob x1 400 then none else (if (σ 5 x1.toNatClampNeg) = (-1) then (if (σ 4 x1.toNatClampNeg) = (-1) then some (0, q4, (tp_up σ 3 x1.toNatClampNeg (vp_nar .boolean 0))) else ((fC_dropCopy σ x1 (σ 4 x1.toNatClampNeg)).bind fun q9 => some (0, q4, (tp_up q9 3 x1.toNatClampNeg (vp_nar .boolean 0))))) else ((fC_dropCopy σ x1 (σ 5 x1.toNatClampNeg)).bind fun q11 => (if (q11 4 x1.toNatClampNeg) = (-1) then some (0, q4, (tp_up q11 3 x1.toNatClampNeg (vp_nar .boolean 0))) else ((fC_dropCopy q11 x1 (q11 4 x1.toNatClampNeg)).bind fun q14 => some (0, q4, (tp_up q14 3 x1.toNatClampNeg (vp_nar .boolean 0)))))))))))
def fC_write (σ : tp_St) (x1 : Int32) (x2 : Int32) (x3 : Int32) : Option (Nat × Int32 × tp_St) := ((fC_isChunk σ x1).bind fun q1 => (if q1 = 0 then some (1, 0, σ) else (if x2 < 0 then some (1, 0, σ) else (if x2 < 4 then ((fC_copiesOf σ x1).bind fun q6 => (if q6 = 0 then some (2, 0, σ) else (if tp_oob ((x1 * 4) + x2) 1600 then none else some (0, 0, (tp_up σ 6 ((x1 * 4) + x2).toNatClampNeg x3))))) else some (1, 0, σ)))))
def fC_read (σ : tp_St) (x1 : Int32) (x2 : Int32) : Option (Nat × Int32 × tp_St) := ((fC_isChunk σ x1).bind fun q1 => (if q1 = 0 then some (1, 0, σ) else (if x2 < 0 then some (1, 0, σ) else (if x2 < 4 then ((fC_copiesOf σ x1).bind fun q6 => (if q6 = 0 then some (2, 0, σ) else (if tp_oob ((x1 * 4) + x2) 1600 then none else some (0, (σ 6 ((x1 * 4) + x2).toNatClampNeg), σ)))) else some (1, 0, σ)))))
def fC_fail_L25 (x1 : Int32) (x2 : Int32) : Nat → Int32 → tp_St → Option (Nat × Int32 × tp_St)
  | 0, _, _ => none
  | n25 + 1, x3, σ25 => (if 400 ≤ x3 then ((fC_takeAway σ25 x1).bind fun q10027 => some (0, x2, q10027)) else ((fC_isOn σ25 x3 x1).bind fun q10029 => (if q10029 = 0 then fC_fail_L25 x1 x2 n25 (x3 + 1) σ25 else ((fC_dropCopy σ25 x3 x1).bind fun q10032 => fC_fail_L25 x1 x2 n25 (x3 + 1) q10032))))
def fC_fail (σ : tp_St) (x1 : Int32) : Option (Nat × Int32 × tp_St) := ((fC_isThere σ x1).bind fun q1 => (if q1 = 0 then some (1, 0, σ) else (if tp_oob x1 12 then none else fC_fail_L25 x1 (σ 1 x1.toNatClampNeg) 401 0 σ)))
def fC_chunksWith_L4 (σ : tp_St) (x1 : Int32) : Nat → Int32 → Int32 → Option Int32
  | 0, _, _ => none
  | n4 + 1, x2, x3 => (if 400 ≤ x3 then some x2 else (if tp_oob x3 400 then none else (if (σ 3 x3.toNatClampNeg) = 0 then fC_chunksWith_L4 σ x1 n4 x2 (x3 + 1) else ((fC_copiesOf σ x3).bind fun q10008 => (if q10008 = x1 then fC_chunksWith_L4 σ x1 n4 (x2 + 1) (x3 + 1) else fC_chunksWith_L4 σ x1 n4 x2 (x3 + 1))))))
def fC_chunksWith (σ : tp_St) (x1 : Int32) : Option Int32 := fC_chunksWith_L4 σ x1 401 0 0
def fC_allChunks_L4 (σ : tp_St)  : Nat → Int32 → Int32 → Option Int32
  | 0, _, _ => none
  | n4 + 1, x1, x2 => (if 400 ≤ x2 then some x1 else (if tp_oob x2 400 then none else (if (σ 3 x2.toNatClampNeg) = 0 then fC_allChunks_L4 σ  n4 x1 (x2 + 1) else fC_allChunks_L4 σ  n4 (x1 + 1) (x2 + 1))))
def fC_allChunks (σ : tp_St) : Option Int32 := fC_allChunks_L4 σ  401 0 0
def fC_capacityWithout_L7 (σ : tp_St) (x1 : Int32) : Nat → Int32 → Int32 → Int32 → Option Int32
  | 0, _, _, _ => none
  | n7 + 1, x2, x3, x4 => (if 12 ≤ x4 then some (if (x2 - x3) < (x2 / 2) then (x2 - x3) else (x2 / 2)) else (if x4 = x1 then fC_capacityWithout_L7 σ x1 n7 x2 x3 (x4 + 1) else ((fC_stays σ x4).bind fun q10010 => (if q10010 = 0 then fC_capacityWithout_L7 σ x1 n7 x2 x3 (x4 + 1) else (if tp_oob x4 12 then none else fC_capacityWithout_L7 σ x1 n7 (x2 + (σ 0 x4.toNatClampNeg)) (if x3 < (σ 0 x4.toNatClampNeg) then (σ 0 x4.toNatClampNeg) else x3) (x4 + 1))))))
def fC_capacityWithout (σ : tp_St) (x1 : Int32) : Option Int32 := fC_capacityWithout_L7 σ x1 13 0 0 0
def fC_leave (σ : tp_St) (x1 : Int32) : Option (Nat × Int32 × tp_St) := ((fC_isThere σ x1).bind fun q1 => (if q1 = 0 then some (1, 0, σ) else (if tp_oob x1 12 then none else (if (σ 2 x1.toNatClampNeg) = 0 then ((fC_chunksWith σ 2).bind fun q6 => ((fC_allChunks σ ).bind fun q8 => (if q8 ≤ q6 then ((fC_allChunks σ ).bind fun q11 => ((fC_capacityWithout σ x1).bind fun q13 => (if q11 ≤ q13 then ((fC_hasLeft (tp_up σ 2 x1.toNatClampNeg (vp_nar .boolean 1)) x1).bind fun q16 => (if q16 = 0 then some (0, ((tp_up σ 2 x1.toNatClampNeg (vp_nar .boolean 1)) 1 x1.toNatClampNeg), (tp_up σ 2 x1.toNatClampNeg (vp_nar .boolean 1))) else ((fC_takeAway (tp_up σ 2 x1.toNatClampNeg (vp_nar .boolean 1)) x1).bind fun q19 => some (0, ((tp_up σ 2 x1.toNatClampNeg (vp_nar .boolean 1)) 1 x1.toNatClampNeg), q19)))) else some (4, 0, σ)))) else some (2, 0, σ)))) else some (2, 0, σ)))))
def fC_stay (σ : tp_St) (x1 : Int32) : Option (Nat × Int32 × tp_St) := ((fC_isThere σ x1).bind fun q1 => (if q1 = 0 then some (1, 0, σ) else (if tp_oob x1 12 then none else (if (σ 2 x1.toNatClampNeg) = 0 then some (2, 0, σ) else some (0, 0, (tp_up σ 2 x1.toNatClampNeg (vp_nar .boolean 0)))))))
def fC_isDegraded (σ : tp_St) (x1 : Int32) : Option Int32 := ((fC_copiesOf σ x1).bind fun q1 => (if q1 = 1 then some 1 else some 0))
def fC_mendOne_L2  : Nat → Int32 → tp_St → Option (Int32 × tp_St)
  | 0, _, _ => none
  | n2 + 1, x1, σ2 => (if 400 ≤ x1 then some (0, σ2) else ((fC_isDegraded σ2 x1).bind fun q10004 => (if q10004 = 0 then fC_mendOne_L2  n2 (x1 + 1) σ2 else (if tp_oob x1 400 then none else ((fC_emptiestBut σ2 (σ2 4 x1.toNatClampNeg)).bind fun q10008 => (if q10008 = (-1) then fC_mendOne_L2  n2 (x1 + 1) σ2 else ((fC_addCopy σ2 x1 q10008).bind fun q10011 => some (1, q10011))))))))
def fC_mendOne (σ : tp_St) : Option (Int32 × tp_St) := fC_mendOne_L2  401 0 σ
def fC_staysWithRoom (σ : tp_St) (x1 : Int32) : Option Int32 := ((fC_stays σ x1).bind fun q1 => (if q1 = 0 then some 0 else ((fC_freePlaces σ x1).bind fun q4 => (if q4 ≤ 0 then some 0 else some 1))))
def fC_makeRoomToMend_L2  : Nat → Int32 → tp_St → Option (Int32 × tp_St)
  | 0, _, _ => none
  | n2 + 1, x1, σ2 => (if 400 ≤ x1 then some (0, σ2) else ((fC_isDegraded σ2 x1).bind fun q10004 => (if q10004 = 0 then fC_makeRoomToMend_L2  n2 (x1 + 1) σ2 else (if tp_oob x1 400 then none else ((fC_staysWithRoom σ2 (σ2 4 x1.toNatClampNeg)).bind fun q10008 => (if q10008 = 0 then fC_makeRoomToMend_L2  n2 (x1 + 1) σ2 else ((fC_makeRoomBeside σ2 (σ2 4 x1.toNatClampNeg)).bind fun q10011 => (if q10011.1 = (-1) then some (0, q10011.2) else some (1, q10011.2)))))))))
def fC_makeRoomToMend (σ : tp_St) : Option (Int32 × tp_St) := fC_makeRoomToMend_L2  401 0 σ
def fC_moveOneOffDisk_L2 (x1 : Int32) : Nat → Int32 → tp_St → Option (Int32 × tp_St)
  | 0, _, _ => none
  | n2 + 1, x2, σ2 => (if 400 ≤ x2 then some (0, σ2) else ((fC_isOn σ2 x2 x1).bind fun q10004 => (if q10004 = 0 then fC_moveOneOffDisk_L2 x1 n2 (x2 + 1) σ2 else ((fC_otherThan σ2 x2 x1).bind fun q10007 => ((fC_emptiestBut σ2 q10007).bind fun q10009 => (if q10009 = (-1) then fC_moveOneOffDisk_L2 x1 n2 (x2 + 1) σ2 else ((fC_moveCopy σ2 x2 x1 q10009).bind fun q10012 => some (1, q10012))))))))
def fC_moveOneOffDisk (σ : tp_St) (x1 : Int32) : Option (Int32 × tp_St) := fC_moveOneOffDisk_L2 x1 401 0 σ
def fC_moveOneOff_L2  : Nat → Int32 → tp_St → Option (Int32 × tp_St)
  | 0, _, _ => none
  | n2 + 1, x1, σ2 => (if 12 ≤ x1 then some (0, σ2) else (if tp_oob x1 12 then none else (if (σ2 2 x1.toNatClampNeg) = 0 then fC_moveOneOff_L2  n2 (x1 + 1) σ2 else ((fC_moveOneOffDisk σ2 x1).bind fun q10006 => (if q10006.1 = 0 then fC_moveOneOff_L2  n2 (x1 + 1) q10006.2 else some (1, q10006.2))))))
def fC_moveOneOff (σ : tp_St) : Option (Int32 × tp_St) := fC_moveOneOff_L2  13 0 σ
def fC_otherDiskWithRoom_L2 (σ : tp_St) (x1 : Int32) : Nat → Int32 → Option Int32
  | 0, _ => none
  | n2 + 1, x2 => (if 400 ≤ x2 then some (-1) else ((fC_isOn σ x2 x1).bind fun q10004 => (if q10004 = 0 then fC_otherDiskWithRoom_L2 σ x1 n2 (x2 + 1) else ((fC_otherThan σ x2 x1).bind fun q10007 => ((fC_staysWithRoom σ q10007).bind fun q10009 => (if q10009 = 0 then fC_otherDiskWithRoom_L2 σ x1 n2 (x2 + 1) else ((fC_otherThan σ x2 x1).bind fun q10012 => some q10012)))))))
def fC_otherDiskWithRoom (σ : tp_St) (x1 : Int32) : Option Int32 := fC_otherDiskWithRoom_L2 σ x1 401 0
def fC_makeRoomToMoveOff_L2  : Nat → Int32 → tp_St → Option (Int32 × tp_St)
  | 0, _, _ => none
  | n2 + 1, x1, σ2 => (if 12 ≤ x1 then some (0, σ2) else (if tp_oob x1 12 then none else (if (σ2 2 x1.toNatClampNeg) = 0 then fC_makeRoomToMoveOff_L2  n2 (x1 + 1) σ2 else ((fC_otherDiskWithRoom σ2 x1).bind fun q10006 => (if q10006 = (-1) then fC_makeRoomToMoveOff_L2  n2 (x1 + 1) σ2 else ((fC_makeRoomBeside σ2 q10006).bind fun q10009 => (if q10009.1 = (-1) then some (0, q10009.2) else some (1, q10009.2))))))))
def fC_makeRoomToMoveOff (σ : tp_St) : Option (Int32 × tp_St) := fC_makeRoomToMoveOff_L2  13 0 σ
def fC_nextStep (σ : tp_St) : Option (Int32 × tp_St) := ((fC_mendOne σ ).bind fun q1 => (if q1.1 = 0 then ((fC_makeRoomToMend q1.2 ).bind fun q4 => (if q4.1 = 0 then ((fC_moveOneOff q4.2 ).bind fun q7 => (if q7.1 = 0 then ((fC_makeRoomToMoveOff q7.2 ).bind fun q10 => (if q10.1 = 0 then some (0, q10.2) else some (4, q10.2))) else some (3, q7.2))) else some (2, q4.2))) else some (1, q1.2)))
def fC_step (σ : tp_St) : Option (Int32 × tp_St) := ((fC_nextStep σ ).bind fun q1 => some (q1.1, q1.2))
def fC_steps_L21 (x2 : Int32) : Nat → Int32 → tp_St → Option (Nat × Int32 × tp_St)
  | 0, _, _ => none
  | n21 + 1, x3, σ21 => (if x2 ≤ x3 then some (0, x3, σ21) else ((fC_nextStep σ21 ).bind fun q10023 => (if q10023.1 = 0 then some (0, x3, q10023.2) else fC_steps_L21 x2 n21 (x3 + 1) q10023.2)))
def fC_steps (σ : tp_St) (x1 : Int32) : Option (Nat × Int32 × tp_St) := (if 0 ≤ x1 then fC_steps_L21 (if 1000000 < x1 then 1000000 else x1) 1000001 0 σ else some (3, 0, σ))
def fC_place (σ : tp_St) (x1 : Int32) (x2 : Int32) : Option (Nat × Int32 × tp_St) := ((fC_isChunk σ x1).bind fun q1 => (if q1 = 0 then some (1, 0, σ) else (if x2 = 0 then (if tp_oob x1 400 then none else some (0, (σ 4 x1.toNatClampNeg), σ)) else (if tp_oob x1 400 then none else some (0, (σ 5 x1.toNatClampNeg), σ)))))
def fC_leastChunkOn_L2 (σ : tp_St) (x1 : Int32) : Nat → Int32 → Option Int32
  | 0, _ => none
  | n2 + 1, x2 => (if 400 ≤ x2 then some (-1) else ((fC_isOn σ x2 x1).bind fun q10004 => (if q10004 = 0 then fC_leastChunkOn_L2 σ x1 n2 (x2 + 1) else some x2)))
def fC_leastChunkOn (σ : tp_St) (x1 : Int32) : Option Int32 := fC_leastChunkOn_L2 σ x1 401 0
def fC_about (σ : tp_St) (x1 : Int32) (x2 : Int32) : Option (Nat × Int32 × tp_St) := ((fC_isThere σ x1).bind fun q1 => (if q1 = 0 then some (1, 0, σ) else (if x2 = 0 then (if tp_oob x1 12 then none else some (0, (σ 0 x1.toNatClampNeg), σ)) else (if x2 = 1 then ((fC_freePlaces σ x1).bind fun q7 => some (0, q7, σ)) else (if x2 = 2 then (if tp_oob x1 12 then none else (if (σ 2 x1.toNatClampNeg) = 0 then some (0, 0, σ) else some (0, 1, σ))) else (if x2 = 3 then ((fC_leastChunkOn σ x1).bind fun q13 => some (0, q13, σ)) else some (3, 0, σ)))))))
def fC_disksThere_L4 (σ : tp_St)  : Nat → Int32 → Int32 → Option Int32
  | 0, _, _ => none
  | n4 + 1, x1, x2 => (if 12 ≤ x2 then some x1 else ((fC_isThere σ x2).bind fun q10006 => (if q10006 = 0 then fC_disksThere_L4 σ  n4 x1 (x2 + 1) else fC_disksThere_L4 σ  n4 (x1 + 1) (x2 + 1))))
def fC_disksThere (σ : tp_St) : Option Int32 := fC_disksThere_L4 σ  13 0 0
def fC_copiesOnLeaving_L4 (σ : tp_St)  : Nat → Int32 → Int32 → Option Int32
  | 0, _, _ => none
  | n4 + 1, x1, x2 => (if 12 ≤ x2 then some x1 else (if tp_oob x2 12 then none else (if (σ 2 x2.toNatClampNeg) = 0 then fC_copiesOnLeaving_L4 σ  n4 x1 (x2 + 1) else fC_copiesOnLeaving_L4 σ  n4 (x1 + (σ 1 x2.toNatClampNeg)) (x2 + 1))))
def fC_copiesOnLeaving (σ : tp_St) : Option Int32 := fC_copiesOnLeaving_L4 σ  13 0 0
def fC_count (σ : tp_St) (x1 : Int32) : Option (Nat × Int32 × tp_St) := (if x1 = 0 then ((fC_disksThere σ ).bind fun q2 => some (0, q2, σ)) else (if x1 = 1 then ((fC_allChunks σ ).bind fun q5 => some (0, q5, σ)) else (if x1 = 2 then ((fC_capacityWithout σ (-1)).bind fun q8 => some (0, q8, σ)) else (if x1 = 3 then ((fC_chunksWith σ 1).bind fun q11 => some (0, q11, σ)) else (if x1 = 4 then ((fC_chunksWith σ 0).bind fun q14 => some (0, q14, σ)) else (if x1 = 5 then ((fC_copiesOnLeaving σ ).bind fun q17 => some (0, q17, σ)) else (if x1 = 6 then some (0, (σ 7 0), σ) else some (3, 0, σ))))))))
end
section
def fM_thrown (σ : tp_St) : Option Int32 := some (σ 0 0)
def fM_isDisk (σ : tp_St) (x1 : Int32) : Option Int32 := (if x1 < 0 then some 0 else (if 12 ≤ x1 then some 0 else (if tp_oob x1 12 then none else (if (σ 1 x1.toNatClampNeg) ≤ 0 then some 0 else some 1))))
def fM_isChunk (σ : tp_St) (x1 : Int32) : Option Int32 := (if x1 < 0 then some 0 else (if 400 ≤ x1 then some 0 else (if tp_oob x1 400 then none else (if (σ 3 x1.toNatClampNeg) = 0 then some 0 else some 1))))
def fM_stays (σ : tp_St) (x1 : Int32) : Option Int32 := (if tp_oob x1 12 then none else (if (σ 1 x1.toNatClampNeg) ≤ 0 then some 0 else (if (σ 2 x1.toNatClampNeg) = 0 then some 1 else some 0)))
def fM_isOn (σ : tp_St) (x1 : Int32) (x2 : Int32) : Option Int32 := (if tp_oob x1 400 then none else (if (σ 3 x1.toNatClampNeg) = 0 then some 0 else (if (((σ 4 x1.toNatClampNeg) >>> (x2 &&& 31)) - ((σ 4 x1.toNatClampNeg) >>> (x2 &&& 31)) / 2 * 2) = 1 then some 1 else some 0)))
def fM_used_L4 (σ : tp_St) (x1 : Int32) : Nat → Int32 → Int32 → Option Int32
  | 0, _, _ => none
  | n4 + 1, x2, x3 => (if 400 ≤ x3 then some x2 else ((fM_isOn σ x3 x1).bind fun q10006 => (if q10006 = 0 then fM_used_L4 σ x1 n4 x2 (x3 + 1) else fM_used_L4 σ x1 n4 (x2 + 1) (x3 + 1))))
def fM_used (σ : tp_St) (x1 : Int32) : Option Int32 := fM_used_L4 σ x1 401 0 0
def fM_freeOn (σ : tp_St) (x1 : Int32) : Option Int32 := (if tp_oob x1 12 then none else ((fM_used σ x1).bind fun q2 => some ((σ 1 x1.toNatClampNeg) - q2)))
def fM_howMany_L4 (σ : tp_St) (x1 : Int32) : Nat → Int32 → Int32 → Option Int32
  | 0, _, _ => none
  | n4 + 1, x2, x3 => (if 12 ≤ x3 then some x2 else ((fM_isOn σ x1 x3).bind fun q10006 => (if q10006 = 0 then fM_howMany_L4 σ x1 n4 x2 (x3 + 1) else fM_howMany_L4 σ x1 n4 (x2 + 1) (x3 + 1))))
def fM_howMany (σ : tp_St) (x1 : Int32) : Option Int32 := fM_howMany_L4 σ x1 13 0 0
def fM_emptiest_L5 (σ : tp_St) (x1 : Int32) (x2 : Int32) : Nat → Int32 → Int32 → Option Int32
  | 0, _, _ => none
  | n5 + 1, x3, x4 => (if 12 ≤ x4 then some x3 else ((fM_stays σ x4).bind fun q10007 => (if q10007 = 0 then fM_emptiest_L5 σ x1 x2 n5 x3 (x4 + 1) else (if x4 = x1 then fM_emptiest_L5 σ x1 x2 n5 x3 (x4 + 1) else ((fM_freeOn σ x4).bind fun q10011 => (if q10011 ≤ 0 then fM_emptiest_L5 σ x1 x2 n5 x3 (x4 + 1) else (if x2 < 0 then (if x3 < 0 then fM_emptiest_L5 σ x1 x2 n5 x4 (x4 + 1) else ((fM_freeOn σ x4).bind fun q10016 => ((fM_freeOn σ x3).bind fun q10018 => (if q10016 ≤ q10018 then fM_emptiest_L5 σ x1 x2 n5 x3 (x4 + 1) else fM_emptiest_L5 σ x1 x2 n5 x4 (x4 + 1))))) else ((fM_isOn σ x2 x4).bind fun q10021 => (if q10021 = 0 then (if x3 < 0 then fM_emptiest_L5 σ x1 x2 n5 x4 (x4 + 1) else ((fM_freeOn σ x4).bind fun q10025 => ((fM_freeOn σ x3).bind fun q10027 => (if q10025 ≤ q10027 then fM_emptiest_L5 σ x1 x2 n5 x3 (x4 + 1) else fM_emptiest_L5 σ x1 x2 n5 x4 (x4 + 1))))) else fM_emptiest_L5 σ x1 x2 n5 x3 (x4 + 1))))))))))
def fM_emptiest (σ : tp_St) (x1 : Int32) (x2 : Int32) : Option Int32 := fM_emptiest_L5 σ x1 x2 13 (-1) 0
def fM_capacity_L7 (σ : tp_St) (x1 : Int32) : Nat → Int32 → Int32 → Int32 → Option Int32
  | 0, _, _, _ => none
  | n7 + 1, x2, x3, x4 => (if 12 ≤ x4 then (if (x2 - x3) ≤ (x2 / 2) then some (x2 - x3) else some (x2 / 2)) else ((fM_stays σ x4).bind fun q10010 => (if q10010 = 0 then fM_capacity_L7 σ x1 n7 x2 x3 (x4 + 1) else (if x4 = x1 then fM_capacity_L7 σ x1 n7 x2 x3 (x4 + 1) else (if tp_oob x4 12 then none else (if (σ 1 x4.toNatClampNeg) ≤ x3 then fM_capacity_L7 σ x1 n7 (x2 + (σ 1 x4.toNatClampNeg)) x3 (x4 + 1) else fM_capacity_L7 σ x1 n7 (x2 + (σ 1 x4.toNatClampNeg)) (σ 1 x4.toNatClampNeg) (x4 + 1)))))))
def fM_capacity (σ : tp_St) (x1 : Int32) : Option Int32 := fM_capacity_L7 σ x1 13 0 0 0
def fM_countWith_L4 (σ : tp_St) (x1 : Int32) : Nat → Int32 → Int32 → Option Int32
  | 0, _, _ => none
  | n4 + 1, x2, x3 => (if 400 ≤ x3 then some x2 else (if tp_oob x3 400 then none else (if (σ 3 x3.toNatClampNeg) = 0 then fM_countWith_L4 σ x1 n4 x2 (x3 + 1) else ((fM_howMany σ x3).bind fun q10008 => (if q10008 = x1 then fM_countWith_L4 σ x1 n4 (x2 + 1) (x3 + 1) else fM_countWith_L4 σ x1 n4 x2 (x3 + 1))))))
def fM_countWith (σ : tp_St) (x1 : Int32) : Option Int32 := fM_countWith_L4 σ x1 401 0 0
def fM_chunkCount (σ : tp_St) : Option Int32 := ((fM_countWith σ 0).bind fun q1 => ((fM_countWith σ 1).bind fun q3 => ((fM_countWith σ 2).bind fun q5 => some ((q1 + q3) + q5))))
def fM_tidy_L2  : Nat → Int32 → tp_St → Option tp_St
  | 0, _, _ => none
  | n2 + 1, x1, σ2 => (if 12 ≤ x1 then some σ2 else (if tp_oob x1 12 then none else (if (σ2 1 x1.toNatClampNeg) ≤ 0 then fM_tidy_L2  n2 (x1 + 1) σ2 else (if (σ2 2 x1.toNatClampNeg) = 0 then fM_tidy_L2  n2 (x1 + 1) σ2 else ((fM_used σ2 x1).bind fun q10007 => (if q10007 = 0 then fM_tidy_L2  n2 (x1 + 1) (tp_up σ2 1 x1.toNatClampNeg 0) else fM_tidy_L2  n2 (x1 + 1) σ2))))))
def fM_tidy (σ : tp_St) : Option tp_St := fM_tidy_L2  13 0 σ
def fM_makeRoom_L29 (K29 : tp_St → Option (Int32 × tp_St)) (x1 : Int32) (x2 : Int32) : Nat → Int32 → tp_St → Option (Int32 × tp_St)
  | 0, _, _ => none
  | n29 + 1, x3, σ29 => (if 12 ≤ x3 then K29 σ29 else ((fM_isOn σ29 x2 x3).bind fun q10031 => (if q10031 = 0 then fM_makeRoom_L29 K29 x1 x2 n29 (x3 + 1) σ29 else ((fM_stays σ29 x3).bind fun q10034 => (if q10034 = 0 then fM_makeRoom_L29 K29 x1 x2 n29 (x3 + 1) σ29 else (if tp_oob x2 400 then none else some (x3, (tp_up (tp_up σ29 4 x2.toNatClampNeg (((σ29 4 x2.toNatClampNeg) - (1 <<< (x3 &&& 31))) + (1 <<< (x1 &&& 31)))) 6 0 (((tp_up σ29 4 x2.toNatClampNeg (((σ29 4 x2.toNatClampNeg) - (1 <<< (x3 &&& 31))) + (1 <<< (x1 &&& 31)))) 6 0) + 1)))))))))
def fM_makeRoom_L2 (x1 : Int32) : Nat → Int32 → tp_St → Option (Int32 × tp_St)
  | 0, _, _ => none
  | n2 + 1, x2, σ2 => (if 400 ≤ x2 then some ((-1), σ2) else (if tp_oob x2 400 then none else (if (σ2 3 x2.toNatClampNeg) = 0 then fM_makeRoom_L2 x1 n2 (x2 + 1) σ2 else ((fM_isOn σ2 x2 x1).bind fun q10006 => (if q10006 = 0 then fM_makeRoom_L29 (fun (σ29k : tp_St) => fM_makeRoom_L2 x1 n2 (x2 + 1) σ29k) x1 x2 13 0 σ2 else fM_makeRoom_L2 x1 n2 (x2 + 1) σ2)))))
def fM_makeRoom (σ : tp_St) (x1 : Int32) : Option (Int32 × tp_St) := fM_makeRoom_L2 x1 401 0 σ
def fM_newChunk_L107 (x1 : Int32) : Nat → Int32 → tp_St → Option (Int32 × tp_St)
  | 0, _, _ => none
  | n107 + 1, x4, σ107 => (if 4 ≤ x4 then some (x1, σ107) else (if tp_oob ((4 * x1) + x4) 1600 then none else fM_newChunk_L107 x1 n107 (x4 + 1) (tp_up σ107 5 ((4 * x1) + x4).toNatClampNeg 0)))
def fM_newChunk_L2  : Nat → Int32 → tp_St → Option (Int32 × tp_St)
  | 0, _, _ => none
  | n2 + 1, x1, σ2 => (if 400 ≤ x1 then (if x1 = 400 then some ((-1), σ2) else ((fM_emptiest σ2 (-1) (-1)).bind fun q10005 => (if 0 ≤ q10005 then ((fM_emptiest σ2 q10005 (-1)).bind fun q10008 => (if q10005 < 0 then (if 0 ≤ q10008 then (if tp_oob x1 400 then none else fM_newChunk_L107 x1 5 0 (tp_up (tp_up σ2 3 x1.toNatClampNeg (vp_nar .boolean 1)) 4 x1.toNatClampNeg ((1 <<< (q10005 &&& 31)) + (1 <<< (q10008 &&& 31))))) else some ((-1), σ2)) else (if 0 ≤ q10008 then (if 0 ≤ q10008 then (if tp_oob x1 400 then none else fM_newChunk_L107 x1 5 0 (tp_up (tp_up σ2 3 x1.toNatClampNeg (vp_nar .boolean 1)) 4 x1.toNatClampNeg ((1 <<< (q10005 &&& 31)) + (1 <<< (q10008 &&& 31))))) else some ((-1), σ2)) else ((fM_freeOn σ2 q10005).bind fun q10020 => (if q10020 < 2 then (if 0 ≤ q10008 then (if tp_oob x1 400 then none else fM_newChunk_L107 x1 5 0 (tp_up (tp_up σ2 3 x1.toNatClampNeg (vp_nar .boolean 1)) 4 x1.toNatClampNeg ((1 <<< (q10005 &&& 31)) + (1 <<< (q10008 &&& 31))))) else some ((-1), σ2)) else ((fM_makeRoom σ2 q10005).bind fun q10027 => (if 0 ≤ q10027.1 then (if tp_oob x1 400 then none else fM_newChunk_L107 x1 5 0 (tp_up (tp_up q10027.2 3 x1.toNatClampNeg (vp_nar .boolean 1)) 4 x1.toNatClampNeg ((1 <<< (q10005 &&& 31)) + (1 <<< (q10027.1 &&& 31))))) else some ((-1), q10027.2)))))))) else (if q10005 < 0 then some ((-1), σ2) else ((fM_freeOn σ2 q10005).bind fun q10034 => (if q10034 < 2 then some ((-1), σ2) else ((fM_makeRoom σ2 q10005).bind fun q10037 => (if 0 ≤ q10037.1 then (if tp_oob x1 400 then none else fM_newChunk_L107 x1 5 0 (tp_up (tp_up q10037.2 3 x1.toNatClampNeg (vp_nar .boolean 1)) 4 x1.toNatClampNeg ((1 <<< (q10005 &&& 31)) + (1 <<< (q10037.1 &&& 31))))) else some ((-1), q10037.2))))))))) else (if tp_oob x1 400 then none else (if (σ2 3 x1.toNatClampNeg) = 0 then (if x1 = 400 then some ((-1), σ2) else ((fM_emptiest σ2 (-1) (-1)).bind fun q10046 => (if 0 ≤ q10046 then ((fM_emptiest σ2 q10046 (-1)).bind fun q10049 => (if q10046 < 0 then (if 0 ≤ q10049 then fM_newChunk_L107 x1 5 0 (tp_up (tp_up σ2 3 x1.toNatClampNeg (vp_nar .boolean 1)) 4 x1.toNatClampNeg ((1 <<< (q10046 &&& 31)) + (1 <<< (q10049 &&& 31)))) else some ((-1), σ2)) else (if 0 ≤ q10049 then (if 0 ≤ q10049 then fM_newChunk_L107 x1 5 0 (tp_up (tp_up σ2 3 x1.toNatClampNeg (vp_nar .boolean 1)) 4 x1.toNatClampNeg ((1 <<< (q10046 &&& 31)) + (1 <<< (q10049 &&& 31)))) else some ((-1), σ2)) else ((fM_freeOn σ2 q10046).bind fun q10059 => (if q10059 < 2 then (if 0 ≤ q10049 then fM_newChunk_L107 x1 5 0 (tp_up (tp_up σ2 3 x1.toNatClampNeg (vp_nar .boolean 1)) 4 x1.toNatClampNeg ((1 <<< (q10046 &&& 31)) + (1 <<< (q10049 &&& 31)))) else some ((-1), σ2)) else ((fM_makeRoom σ2 q10046).bind fun q10065 => (if 0 ≤ q10065.1 then fM_newChunk_L107 x1 5 0 (tp_up (tp_up q10065.2 3 x1.toNatClampNeg (vp_nar .boolean 1)) 4 x1.toNatClampNeg ((1 <<< (q10046 &&& 31)) + (1 <<< (q10065.1 &&& 31)))) else some ((-1), q10065.2)))))))) else (if q10046 < 0 then some ((-1), σ2) else ((fM_freeOn σ2 q10046).bind fun q10071 => (if q10071 < 2 then some ((-1), σ2) else ((fM_makeRoom σ2 q10046).bind fun q10074 => (if 0 ≤ q10074.1 then fM_newChunk_L107 x1 5 0 (tp_up (tp_up q10074.2 3 x1.toNatClampNeg (vp_nar .boolean 1)) 4 x1.toNatClampNeg ((1 <<< (q10046 &&& 31)) + (1 <<< (q10074.1 &&& 31)))) else some ((-1), q10074.2))))))))) else fM_newChunk_L2  n2 (x1 + 1) σ2)))
def fM_newChunk (σ : tp_St) : Option (Int32 × tp_St) := fM_newChunk_L2  401 0 σ
def fM_chunk (σ : tp_St) : Option (Int32 × tp_St) := ((fM_newChunk σ ).bind fun q1 => (if 0 ≤ q1.1 then (if 0 ≤ q1.1 then some (q1.1, (tp_up q1.2 0 0 0)) else some (0, (tp_up q1.2 0 0 0))) else (if 0 ≤ q1.1 then some (q1.1, (tp_up q1.2 0 0 1)) else some (0, (tp_up q1.2 0 0 1)))))
def fM_chunks_L15 (x1 : Int32) : Nat → Int32 → tp_St → Option (Int32 × tp_St)
  | 0, _, _ => none
  | n15 + 1, x2, σ15 => (if x1 ≤ x2 then some (x2, σ15) else ((fM_newChunk σ15 ).bind fun q10017 => (if q10017.1 < 0 then some (x2, q10017.2) else fM_chunks_L15 x1 n15 (x2 + 1) q10017.2)))
def fM_chunks (σ : tp_St) (x1 : Int32) : Option (Int32 × tp_St) := (if 0 ≤ x1 then fM_chunks_L15 x1 402 0 (tp_up σ 0 0 0) else fM_chunks_L15 x1 402 0 (tp_up σ 0 0 1))
def fM_free (σ : tp_St) (x1 : Int32) : Option (Int32 × tp_St) := ((fM_isChunk σ x1).bind fun q1 => (if q1 = 0 then some (0, (tp_up σ 0 0 1)) else ((fM_howMany (tp_up σ 0 0 0) x1).bind fun q4 => (if tp_oob x1 400 then none else ((fM_tidy (tp_up (tp_up (tp_up σ 0 0 0) 3 x1.toNatClampNeg (vp_nar .boolean 0)) 4 x1.toNatClampNeg 0) ).bind fun q7 => some (q4, q7))))))
def fM_copyOne_L2  : Nat → Int32 → tp_St → Option (Int32 × tp_St)
  | 0, _, _ => none
  | n2 + 1, x1, σ2 => (if 400 ≤ x1 then some (0, σ2) else (if tp_oob x1 400 then none else (if (σ2 3 x1.toNatClampNeg) = 0 then fM_copyOne_L2  n2 (x1 + 1) σ2 else ((fM_howMany σ2 x1).bind fun q10006 => (if q10006 = 1 then ((fM_emptiest σ2 (-1) x1).bind fun q10009 => (if q10009 < 0 then fM_copyOne_L2  n2 (x1 + 1) σ2 else some (1, (tp_up σ2 4 x1.toNatClampNeg ((σ2 4 x1.toNatClampNeg) + (1 <<< (q10009 &&& 31))))))) else fM_copyOne_L2  n2 (x1 + 1) σ2)))))
def fM_copyOne (σ : tp_St) : Option (Int32 × tp_St) := fM_copyOne_L2  401 0 σ
def fM_roomFor_L2 (x1 : Int32) (x2 : Int32) : Nat → Int32 → tp_St → Option (Int32 × tp_St)
  | 0, _, _ => none
  | n2 + 1, x3, σ2 => (if 12 ≤ x3 then some (0, σ2) else (if x3 = x2 then fM_roomFor_L2 x1 x2 n2 (x3 + 1) σ2 else ((fM_isOn σ2 x1 x3).bind fun q10005 => (if q10005 = 0 then fM_roomFor_L2 x1 x2 n2 (x3 + 1) σ2 else ((fM_stays σ2 x3).bind fun q10008 => (if q10008 = 0 then fM_roomFor_L2 x1 x2 n2 (x3 + 1) σ2 else ((fM_freeOn σ2 x3).bind fun q10011 => (if q10011 ≤ 0 then fM_roomFor_L2 x1 x2 n2 (x3 + 1) σ2 else ((fM_makeRoom σ2 x3).bind fun q10014 => (if q10014.1 < 0 then fM_roomFor_L2 x1 x2 n2 (x3 + 1) q10014.2 else some (1, q10014.2)))))))))))
def fM_roomFor (σ : tp_St) (x1 : Int32) (x2 : Int32) : Option (Int32 × tp_St) := fM_roomFor_L2 x1 x2 13 0 σ
def fM_roomForOne_L2  : Nat → Int32 → tp_St → Option (Int32 × tp_St)
  | 0, _, _ => none
  | n2 + 1, x1, σ2 => (if 400 ≤ x1 then some (0, σ2) else (if tp_oob x1 400 then none else (if (σ2 3 x1.toNatClampNeg) = 0 then fM_roomForOne_L2  n2 (x1 + 1) σ2 else ((fM_howMany σ2 x1).bind fun q10006 => (if q10006 = 1 then ((fM_roomFor σ2 x1 (-1)).bind fun q10009 => (if q10009.1 = 0 then fM_roomForOne_L2  n2 (x1 + 1) q10009.2 else some (1, q10009.2))) else fM_roomForOne_L2  n2 (x1 + 1) σ2)))))
def fM_roomForOne (σ : tp_St) : Option (Int32 × tp_St) := fM_roomForOne_L2  401 0 σ
def fM_leaveOne_L10 (K10 : tp_St → Option (Int32 × tp_St)) (x1 : Int32) (x2 : Int32) : Nat → Int32 → tp_St → Option (Int32 × tp_St)
  | 0, _, _ => none
  | n10 + 1, x3, σ10 => (if 400 ≤ x3 then K10 σ10 else (if tp_oob x2 12 then none else (if (σ10 1 x2.toNatClampNeg) ≤ 0 then K10 σ10 else (if (σ10 2 x2.toNatClampNeg) = 0 then K10 σ10 else ((fM_isOn σ10 x3 x2).bind fun q10015 => (if q10015 = 0 then fM_leaveOne_L10 K10 x1 x2 n10 (x3 + 1) σ10 else (if x1 = 0 then ((fM_emptiest σ10 (-1) x3).bind fun q10019 => (if q10019 < 0 then (if x1 = 0 then fM_leaveOne_L10 K10 x1 x2 n10 (x3 + 1) σ10 else ((fM_roomFor σ10 x3 x2).bind fun q10023 => (if q10023.1 = 0 then fM_leaveOne_L10 K10 x1 x2 n10 (x3 + 1) q10023.2 else some (1, q10023.2)))) else (if tp_oob x3 400 then none else some (1, (tp_up σ10 4 x3.toNatClampNeg (((σ10 4 x3.toNatClampNeg) - (1 <<< (x2 &&& 31))) + (1 <<< (q10019 &&& 31)))))))) else (if x1 = 0 then fM_leaveOne_L10 K10 x1 x2 n10 (x3 + 1) σ10 else ((fM_roomFor σ10 x3 x2).bind fun q10028 => (if q10028.1 = 0 then fM_leaveOne_L10 K10 x1 x2 n10 (x3 + 1) q10028.2 else some (1, q10028.2)))))))))))
def fM_leaveOne_L2 (x1 : Int32) : Nat → Int32 → tp_St → Option (Int32 × tp_St)
  | 0, _, _ => none
  | n2 + 1, x2, σ2 => (if 12 ≤ x2 then some (0, σ2) else fM_leaveOne_L10 (fun (σ10k : tp_St) => fM_leaveOne_L2 x1 n2 (x2 + 1) σ10k) x1 x2 401 0 σ2)
def fM_leaveOne (σ : tp_St) (x1 : Int32) : Option (Int32 × tp_St) := fM_leaveOne_L2 x1 13 0 σ
def fM_doStep (σ : tp_St) : Option (Int32 × tp_St) := ((fM_copyOne σ ).bind fun q1 => (if q1.1 = 0 then ((fM_roomForOne q1.2 ).bind fun q4 => (if q4.1 = 0 then ((fM_leaveOne q4.2 0).bind fun q7 => (if q7.1 = 0 then ((fM_leaveOne q7.2 1).bind fun q10 => (if q10.1 = 0 then ((fM_tidy q10.2 ).bind fun q13 => some (0, q13)) else ((fM_tidy q10.2 ).bind fun q15 => some (4, q15)))) else ((fM_tidy q7.2 ).bind fun q17 => some (3, q17)))) else ((fM_tidy q4.2 ).bind fun q19 => some (2, q19)))) else ((fM_tidy q1.2 ).bind fun q21 => some (1, q21))))
def fM_step (σ : tp_St) : Option (Int32 × tp_St) := ((fM_doStep (tp_up σ 0 0 0) ).bind fun q1 => some (q1.1, q1.2))
def fM_steps_L25 (x1 : Int32) : Nat → Int32 → Int32 → tp_St → Option (Int32 × tp_St)
  | 0, _, _, _ => none
  | n25 + 1, x2, x3, σ25 => (if x3 = 0 then some (x2, σ25) else ((fM_doStep σ25 ).bind fun q10027 => (if q10027.1 ≤ 0 then fM_steps_L25 x1 n25 x2 0 q10027.2 else (if x1 ≤ (x2 + 1) then fM_steps_L25 x1 n25 (x2 + 1) 0 q10027.2 else fM_steps_L25 x1 n25 (x2 + 1) 1 q10027.2))))
def fM_steps (σ : tp_St) (x1 : Int32) : Option (Int32 × tp_St) := (if 0 ≤ x1 then (if x1 ≤ 0 then fM_steps_L25 x1 1000001 0 0 (tp_up σ 0 0 0) else fM_steps_L25 x1 1000001 0 1 (tp_up σ 0 0 0)) else (if x1 ≤ 0 then fM_steps_L25 x1 1000001 0 0 (tp_up σ 0 0 1) else fM_steps_L25 x1 1000001 0 1 (tp_up σ 0 0 1)))
def fM_disk (σ : tp_St) (x1 : Int32) (x2 : Int32) : Option tp_St := (if x1 < 0 then some (tp_up σ 0 0 1) else (if x1 < 12 then (if tp_oob x1 12 then none else (if (σ 1 x1.toNatClampNeg) ≤ 0 then (if x2 < 1 then some (tp_up σ 0 0 3) else (if x2 ≤ 200 then some (tp_up (tp_up (tp_up σ 0 0 0) 1 x1.toNatClampNeg x2) 2 x1.toNatClampNeg (vp_nar .boolean 0)) else some (tp_up σ 0 0 3))) else some (tp_up σ 0 0 2))) else some (tp_up σ 0 0 1)))
def fM_fail_L34 (x1 : Int32) (x2 : Int32) : Nat → Int32 → tp_St → Option (Int32 × tp_St)
  | 0, _, _ => none
  | n34 + 1, x3, σ34 => (if 400 ≤ x3 then (if tp_oob x1 12 then none else some (x2, (tp_up σ34 1 x1.toNatClampNeg 0))) else ((fM_isOn σ34 x3 x1).bind fun q10037 => (if q10037 = 0 then (if tp_oob x3 400 then none else fM_fail_L34 x1 x2 n34 (x3 + 1) (tp_up σ34 4 x3.toNatClampNeg (σ34 4 x3.toNatClampNeg))) else (if tp_oob x3 400 then none else fM_fail_L34 x1 x2 n34 (x3 + 1) (tp_up σ34 4 x3.toNatClampNeg ((σ34 4 x3.toNatClampNeg) - (1 <<< (x1 &&& 31))))))))
def fM_fail (σ : tp_St) (x1 : Int32) : Option (Int32 × tp_St) := ((fM_isDisk σ x1).bind fun q1 => (if q1 = 0 then some (0, (tp_up σ 0 0 1)) else ((fM_used (tp_up σ 0 0 0) x1).bind fun q4 => fM_fail_L34 x1 q4 401 0 (tp_up σ 0 0 0))))
def fM_leave (σ : tp_St) (x1 : Int32) : Option (Int32 × tp_St) := ((fM_isDisk σ x1).bind fun q1 => (if q1 = 0 then some (0, (tp_up σ 0 0 1)) else (if tp_oob x1 12 then none else (if (σ 2 x1.toNatClampNeg) = 0 then ((fM_countWith σ 0).bind fun q6 => ((fM_countWith σ 1).bind fun q8 => (if (q6 + q8) ≤ 0 then ((fM_chunkCount σ ).bind fun q11 => ((fM_capacity σ x1).bind fun q13 => (if q11 ≤ q13 then ((fM_used (tp_up (tp_up σ 0 0 0) 2 x1.toNatClampNeg (vp_nar .boolean 1)) x1).bind fun q16 => ((fM_tidy (tp_up (tp_up σ 0 0 0) 2 x1.toNatClampNeg (vp_nar .boolean 1)) ).bind fun q18 => some (q16, q18))) else some (0, (tp_up σ 0 0 3))))) else some (0, (tp_up σ 0 0 2))))) else some (0, (tp_up σ 0 0 2))))))
def fM_stay (σ : tp_St) (x1 : Int32) : Option tp_St := ((fM_isDisk σ x1).bind fun q1 => (if q1 = 0 then some (tp_up σ 0 0 1) else (if tp_oob x1 12 then none else (if (σ 2 x1.toNatClampNeg) = 0 then some (tp_up σ 0 0 2) else some (tp_up (tp_up σ 0 0 0) 2 x1.toNatClampNeg (vp_nar .boolean 0))))))
def fM_write (σ : tp_St) (x1 : Int32) (x2 : Int32) (x3 : Int32) : Option tp_St := ((fM_isChunk σ x1).bind fun q1 => (if q1 = 0 then some (tp_up σ 0 0 1) else (if x2 < 0 then some (tp_up σ 0 0 1) else (if x2 ≤ 3 then (if tp_oob x1 400 then none else (if (σ 4 x1.toNatClampNeg) = 0 then some (tp_up σ 0 0 2) else (if tp_oob ((4 * x1) + x2) 1600 then none else some (tp_up (tp_up σ 0 0 0) 5 ((4 * x1) + x2).toNatClampNeg x3)))) else some (tp_up σ 0 0 1)))))
def fM_read (σ : tp_St) (x1 : Int32) (x2 : Int32) : Option (Int32 × tp_St) := ((fM_isChunk σ x1).bind fun q1 => (if q1 = 0 then some (0, (tp_up σ 0 0 1)) else (if x2 < 0 then some (0, (tp_up σ 0 0 1)) else (if x2 ≤ 3 then (if tp_oob x1 400 then none else (if (σ 4 x1.toNatClampNeg) = 0 then some (0, (tp_up σ 0 0 2)) else (if tp_oob ((4 * x1) + x2) 1600 then none else some (((tp_up σ 0 0 0) 5 ((4 * x1) + x2).toNatClampNeg), (tp_up σ 0 0 0))))) else some (0, (tp_up σ 0 0 1))))))
def fM_place_L34 (x1 : Int32) (x2 : Int32) : Nat → Int32 → Int32 → Int32 → tp_St → Option (Int32 × tp_St)
  | 0, _, _, _, _ => none
  | n34 + 1, x3, x4, x5, σ34 => (if 12 ≤ x5 then (if x2 = 0 then some (x3, σ34) else some (x4, σ34)) else ((fM_isOn σ34 x1 x5).bind fun q10037 => (if q10037 = 0 then fM_place_L34 x1 x2 n34 x3 x4 (x5 + 1) σ34 else (if 0 ≤ x3 then (if 0 ≤ x3 then fM_place_L34 x1 x2 n34 x3 x5 (x5 + 1) σ34 else fM_place_L34 x1 x2 n34 x5 x5 (x5 + 1) σ34) else (if 0 ≤ x3 then fM_place_L34 x1 x2 n34 x3 x4 (x5 + 1) σ34 else fM_place_L34 x1 x2 n34 x5 x4 (x5 + 1) σ34)))))
def fM_place (σ : tp_St) (x1 : Int32) (x2 : Int32) : Option (Int32 × tp_St) := ((fM_isChunk σ x1).bind fun q1 => (if q1 = 0 then some (0, (tp_up σ 0 0 1)) else fM_place_L34 x1 x2 13 (-1) (-1) 0 (tp_up σ 0 0 0)))
def fM_about_L87 (x1 : Int32) : Nat → Int32 → tp_St → Option (Int32 × tp_St)
  | 0, _, _ => none
  | n87 + 1, x3, σ87 => (if 400 ≤ x3 then some ((-1), σ87) else ((fM_isOn σ87 x3 x1).bind fun q10089 => (if q10089 = 0 then fM_about_L87 x1 n87 (x3 + 1) σ87 else some (x3, σ87))))
def fM_about (σ : tp_St) (x1 : Int32) (x2 : Int32) : Option (Int32 × tp_St) := ((fM_isDisk σ x1).bind fun q1 => (if q1 = 0 then some (0, (tp_up σ 0 0 1)) else (if x2 < 0 then some (0, (tp_up σ 0 0 2)) else (if x2 ≤ 3 then (if 3 ≤ x2 then fM_about_L87 x1 401 0 (tp_up σ 0 0 0) else (if x2 = 0 then (if tp_oob x1 12 then none else some (((tp_up σ 0 0 0) 1 x1.toNatClampNeg), (tp_up σ 0 0 0))) else (if x2 = 1 then ((fM_freeOn (tp_up σ 0 0 0) x1).bind fun q15 => some (q15, (tp_up σ 0 0 0))) else (if tp_oob x1 12 then none else (if ((tp_up σ 0 0 0) 2 x1.toNatClampNeg) = 0 then some (0, (tp_up σ 0 0 0)) else some (1, (tp_up σ 0 0 0))))))) else some (0, (tp_up σ 0 0 2))))))
def fM_count_L35 (x1 : Int32) : Nat → Int32 → Int32 → Int32 → tp_St → Option (Int32 × tp_St)
  | 0, _, _, _, _ => none
  | n35 + 1, x2, x3, x4, σ35 => (if 12 ≤ x4 then (if x1 = 0 then some (x2, σ35) else (if x1 = 1 then ((fM_chunkCount σ35 ).bind fun q10049 => some (q10049, σ35)) else (if x1 = 2 then ((fM_capacity σ35 (-1)).bind fun q10047 => some (q10047, σ35)) else (if x1 = 3 then ((fM_countWith σ35 1).bind fun q10045 => some (q10045, σ35)) else (if x1 = 4 then ((fM_countWith σ35 0).bind fun q10043 => some (q10043, σ35)) else (if x1 = 5 then some (x3, σ35) else some ((σ35 6 0), σ35))))))) else (if tp_oob x4 12 then none else (if (σ35 1 x4.toNatClampNeg) ≤ 0 then (if (σ35 1 x4.toNatClampNeg) ≤ 0 then fM_count_L35 x1 n35 x2 x3 (x4 + 1) σ35 else (if (σ35 2 x4.toNatClampNeg) = 0 then fM_count_L35 x1 n35 x2 x3 (x4 + 1) σ35 else ((fM_used σ35 x4).bind fun q10055 => fM_count_L35 x1 n35 x2 (x3 + q10055) (x4 + 1) σ35))) else (if (σ35 1 x4.toNatClampNeg) ≤ 0 then fM_count_L35 x1 n35 (x2 + 1) x3 (x4 + 1) σ35 else (if (σ35 2 x4.toNatClampNeg) = 0 then fM_count_L35 x1 n35 (x2 + 1) x3 (x4 + 1) σ35 else ((fM_used σ35 x4).bind fun q10059 => fM_count_L35 x1 n35 (x2 + 1) (x3 + q10059) (x4 + 1) σ35))))))
def fM_count (σ : tp_St) (x1 : Int32) : Option (Int32 × tp_St) := (if x1 < 0 then some (0, (tp_up σ 0 0 1)) else (if 6 < x1 then some (0, (tp_up σ 0 0 1)) else fM_count_L35 x1 13 0 0 0 (tp_up σ 0 0 0)))
end
section
abbrev tp_nI (n : Nat) : Int32 := Int32.ofNat n
theorem tp_nI_t {i : Nat} (h : i < 2000000) : (tp_nI i).toNatClampNeg = i := Int32.toNatClampNeg_ofNat_of_lt (by omega)
theorem tp_nI_le {i j : Nat} (hi : i < 2000000) (hj : j < 2000000) : tp_nI i ≤ tp_nI j ↔ i ≤ j := Int32.ofNat_le_iff_le (by omega) (by omega)
theorem tp_nI_lt {i j : Nat} (hi : i < 2000000) (hj : j < 2000000) : tp_nI i < tp_nI j ↔ i < j := Int32.ofNat_lt_iff_lt (by omega) (by omega)
theorem tp_nI_eq {i j : Nat} (hi : i < 2000000) (hj : j < 2000000) : tp_nI i = tp_nI j ↔ i = j := ⟨fun h => by rw [← tp_nI_t hi, h, tp_nI_t hj], fun h => by rw [h]⟩
theorem tp_nI_add (a b : Nat) : tp_nI (a + b) = tp_nI a + tp_nI b := Int32.ofNat_add a b
theorem tp_nI_mul (a b : Nat) : tp_nI (a * b) = tp_nI a * tp_nI b := Int32.ofNat_mul a b
theorem tp_nI_s (i : Nat) : tp_nI i + 1 = tp_nI (i + 1) := (Int32.ofNat_add i 1).symm
theorem tp_nI_nn {i : Nat} (h : i < 2000000) : ¬ tp_nI i < 0 := fun z => absurd ((tp_nI_lt (j := 0) h (by omega)).mp z) (by omega)
theorem tp_nI_0 {i : Nat} (h : i < 2000000) : tp_nI i = 0 ↔ i = 0 := tp_nI_eq (j := 0) h (by omega)
theorem tp_nI_pos {i : Nat} (h : i < 2000000) : 0 < tp_nI i ↔ 0 < i := tp_nI_lt (i := 0) (by omega) h
theorem tp_nI_np {i : Nat} (h : i < 2000000) : tp_nI i ≤ 0 ↔ i = 0 := by
  have := tp_nI_le (j := 0) h (by omega)
  exact ⟨fun z => by have := this.mp z; omega, fun z => this.mpr (by omega)⟩
theorem tp_nI_m {i : Nat} (h : i < 2000000) : tp_nI i ≠ -1 := fun z => tp_nI_nn h (by rw [z]; decide)
theorem tp_nI_m' {i : Nat} (h : i < 2000000) : (-1 : Int32) ≠ tp_nI i := fun z => tp_nI_m h z.symm
theorem tp_g4 {i : Nat} (h : i < 400) : ¬ (400 : Int32) ≤ tp_nI i := fun z => absurd ((tp_nI_le (i := 400) (by omega) (by omega)).mp z) (by omega)
theorem tp_gd {i : Nat} (h : i < 12) : ¬ (12 : Int32) ≤ tp_nI i := fun z => absurd ((tp_nI_le (i := 12) (by omega) (by omega)).mp z) (by omega)
theorem tp_b4 {i : Nat} (h : i < 400) : ¬ tp_oob (tp_nI i) 400 := fun z => z.elim (tp_nI_nn (by omega)) (fun z => by rw [tp_nI_t (by omega)] at z; omega)
theorem tp_bd {i : Nat} (h : i < 12) : ¬ tp_oob (tp_nI i) 12 := fun z => z.elim (tp_nI_nn (by omega)) (fun z => by rw [tp_nI_t (by omega)] at z; omega)
theorem tp_bw {i : Nat} (h : i < 1600) : ¬ tp_oob (tp_nI i) 1600 := fun z => z.elim (tp_nI_nn (by omega)) (fun z => by rw [tp_nI_t (by omega)] at z; omega)
theorem tp_t4 {i : Nat} (h : i < 400) : (tp_nI i).toNatClampNeg = i := tp_nI_t (by omega)
theorem tp_td {i : Nat} (h : i < 12) : (tp_nI i).toNatClampNeg = i := tp_nI_t (by omega)
theorem tp_int_cases (N : Nat) (hN : N < 2000000) (x : Int32) : (∃ d, d < N ∧ x = tp_nI d) ∨ x < 0 ∨ tp_nI N ≤ x := by
  by_cases h : x < 0
  · exact .inr (.inl h)
  · have h0 : tp_nI x.toNatClampNeg = x := Int32.ofNat_toNatClampNeg x (Int32.not_lt.mp h)
    by_cases h1 : x.toNatClampNeg < N
    · exact .inl ⟨_, h1, h0.symm⟩
    · refine .inr (.inr ?_)
      rw [← h0]
      exact (Int32.ofNat_le_iff_le (by omega) x.toNatClampNeg_lt).mpr (by omega)
def tp_findF (p : Nat → Bool) : Nat → Nat → Option Nat
  | 0, _ => none
  | k + 1, i => if p i then some i else tp_findF p k (i + 1)
theorem tp_findF_some {p : Nat → Bool} : ∀ {k i j : Nat}, tp_findF p k i = some j → i ≤ j ∧ j < i + k ∧ p j = true ∧ ∀ m, i ≤ m → m < j → p m = false := by
  intro k
  induction k with
  | zero => intro i j h; cases h
  | succ k ih =>
    intro i j h
    rw [tp_findF] at h
    by_cases hp : p i = true
    · rw [if_pos hp] at h
      cases h
      exact ⟨Nat.le_refl _, by omega, hp, fun m h1 h2 => absurd h1 (by omega)⟩
    · rw [if_neg hp] at h
      obtain ⟨h1, h2, h3, h4⟩ := ih h
      refine ⟨by omega, by omega, h3, fun m h5 h6 => ?_⟩
      rcases Nat.lt_or_ge i m with h7 | h7
      · exact h4 m h7 h6
      · have : m = i := by omega
        rw [this]; exact Bool.eq_false_iff.mpr hp
theorem tp_findF_none {p : Nat → Bool} : ∀ {k i : Nat}, tp_findF p k i = none → ∀ m, i ≤ m → m < i + k → p m = false := by
  intro k
  induction k with
  | zero => intro i _ m h1 h2; omega
  | succ k ih =>
    intro i h m h1 h2
    rw [tp_findF] at h
    by_cases hp : p i = true
    · rw [if_pos hp] at h; cases h
    · rw [if_neg hp] at h
      rcases Nat.lt_or_ge i m with h7 | h7
      · exact ih h m h7 (by omega)
      · have : m = i := by omega
        rw [this]; exact Bool.eq_false_iff.mpr hp
theorem tp_findF_congr {p q : Nat → Bool} : ∀ {k i : Nat}, (∀ m, i ≤ m → m < i + k → p m = q m) → tp_findF p k i = tp_findF q k i := by
  intro k
  induction k with
  | zero => intro i _; rfl
  | succ k ih =>
    intro i h
    rw [tp_findF, tp_findF, h i (Nat.le_refl _) (by omega), ih (fun m h1 h2 => h m (by omega) (by omega))]
theorem tp_findF_is {p : Nat → Bool} {N j : Nat} (hj : j < N) (hp : p j = true) (hn : ∀ m, m < j → p m = false) : tp_findF p N 0 = some j := by
  cases h : tp_findF p N 0 with
  | none => have := tp_findF_none h j (by omega) (by omega); rw [hp] at this; cases this
  | some i =>
    obtain ⟨h1, h2, h3, h4⟩ := tp_findF_some h
    rcases Nat.lt_trichotomy i j with h5 | h5 | h5
    · rw [hn i h5] at h3; cases h3
    · rw [h5]
    · rw [h4 j (by omega) h5] at hp; cases hp
theorem tp_findF_no {p : Nat → Bool} {N : Nat} (hn : ∀ m, m < N → p m = false) : tp_findF p N 0 = none := by
  cases h : tp_findF p N 0 with
  | none => rfl
  | some i => obtain ⟨h1, h2, h3, h4⟩ := tp_findF_some h; rw [hn i (by omega)] at h3; cases h3
theorem tp_find_loop {α : Type} {F : Nat → Int32 → α} {N : Nat} {p : Nat → Bool} {hit : Nat → α} {miss : α} (h0 : F 1 (tp_nI N) = miss)
    (h1 : ∀ n i, i < N → F (n + 1) (tp_nI i) = if p i then hit i else F n (tp_nI i + 1)) : ∀ k i, i + k = N → F (k + 1) (tp_nI i) = (tp_findF p k i).elim miss hit := by
  intro k
  induction k with
  | zero => intro i h; rw [show i = N from by omega, h0]; rfl
  | succ k ih =>
    intro i h
    rw [h1 (k + 1) i (by omega), tp_findF]
    by_cases hp : p i = true
    · rw [if_pos hp, if_pos hp]; rfl
    · rw [if_neg hp, if_neg hp, tp_nI_s, ih (i + 1) (by omega)]
theorem tp_find_loop0 {α : Type} {F : Nat → Int32 → α} {N : Nat} {p : Nat → Bool} {hit : Nat → α} {miss : α} (h0 : F 1 (tp_nI N) = miss)
    (h1 : ∀ n i, i < N → F (n + 1) (tp_nI i) = if p i then hit i else F n (tp_nI i + 1)) : F (N + 1) 0 = (tp_findF p N 0).elim miss hit := tp_find_loop h0 h1 N 0 (Nat.zero_add N)
theorem tp_acc_loop {α β : Type} {F : Nat → β → Int32 → α} {N : Nat} {acc : Nat → β} {fin : α} (h0 : F 1 (acc N) (tp_nI N) = fin)
    (h1 : ∀ n i, i < N → F (n + 1) (acc i) (tp_nI i) = F n (acc (i + 1)) (tp_nI i + 1)) : ∀ k i, i + k = N → F (k + 1) (acc i) (tp_nI i) = fin := by
  intro k
  induction k with
  | zero => intro i h; rw [show i = N from by omega, h0]
  | succ k ih => intro i h; rw [h1 (k + 1) i (by omega), tp_nI_s, ih (i + 1) (by omega)]
theorem tp_acc_loop0 {α β : Type} {F : Nat → β → Int32 → α} {N : Nat} {acc : Nat → β} {fin : α} (h0 : F 1 (acc N) (tp_nI N) = fin)
    (h1 : ∀ n i, i < N → F (n + 1) (acc i) (tp_nI i) = F n (acc (i + 1)) (tp_nI i + 1)) : F (N + 1) (acc 0) 0 = fin := tp_acc_loop h0 h1 N 0 (Nat.zero_add N)
def tp_sumF (f : Nat → Nat) : Nat → Nat
  | 0 => 0
  | n + 1 => tp_sumF f n + f n
abbrev tp_cntF (p : Nat → Bool) (n : Nat) : Nat := tp_sumF (fun i => (p i).toNat) n
theorem tp_sumF_congr {f g : Nat → Nat} : ∀ {n : Nat}, (∀ i, i < n → f i = g i) → tp_sumF f n = tp_sumF g n := by
  intro n
  induction n with
  | zero => intro _; rfl
  | succ n ih => intro h; rw [tp_sumF, tp_sumF, ih (fun i hi => h i (by omega)), h n (by omega)]
theorem tp_cntF_congr {p q : Nat → Bool} {n : Nat} (h : ∀ i, i < n → p i = q i) : tp_cntF p n = tp_cntF q n := tp_sumF_congr (fun i hi => congrArg Bool.toNat (h i hi))
theorem tp_sumF_upd {f g : Nat → Nat} {c : Nat} : ∀ {n : Nat}, c < n → (∀ i, i < n → i ≠ c → f i = g i) → tp_sumF f n + g c = tp_sumF g n + f c := by
  intro n
  induction n with
  | zero => intro h _; omega
  | succ n ih =>
    intro hc h
    rw [tp_sumF, tp_sumF]
    by_cases e : c = n
    · rw [tp_sumF_congr (f := f) (g := g) (n := n) (fun i hi => h i (by omega) (by omega)), e]; omega
    · have := ih (by omega) (fun i hi hne => h i (by omega) hne)
      rw [h n (by omega) (by omega)]; omega
theorem tp_sumF_le {f : Nat → Nat} {b : Nat} : ∀ {n : Nat}, (∀ i, i < n → f i ≤ b) → tp_sumF f n ≤ n * b := by
  intro n
  induction n with
  | zero => intro _; rw [tp_sumF]; omega
  | succ n ih => intro h; rw [tp_sumF, Nat.succ_mul]; have := ih (fun i hi => h i (by omega)); have := h n (by omega); omega
theorem tp_sumF_add {f g : Nat → Nat} : ∀ {n : Nat}, tp_sumF (fun i => f i + g i) n = tp_sumF f n + tp_sumF g n := by
  intro n
  induction n with
  | zero => rfl
  | succ n ih => rw [tp_sumF, tp_sumF, tp_sumF, ih]; omega
theorem tp_cntF_le (p : Nat → Bool) (n : Nat) : tp_cntF p n ≤ n := by
  have := tp_sumF_le (f := fun i => (p i).toNat) (b := 1) (n := n) (fun i _ => by cases p i <;> decide)
  show tp_sumF _ n ≤ n
  omega
theorem tp_sumF_zero {f : Nat → Nat} : ∀ {n : Nat}, tp_sumF f n = 0 → ∀ i, i < n → f i = 0 := by
  intro n
  induction n with
  | zero => intro _ i hi; omega
  | succ n ih =>
    intro h i hi
    rw [tp_sumF] at h
    by_cases e : i = n
    · rw [e]; omega
    · exact ih (by omega) i (by omega)
theorem tp_sumF_all0 {f : Nat → Nat} {n : Nat} (h : ∀ i, i < n → f i = 0) : tp_sumF f n = 0 := by
  have := tp_sumF_le (f := f) (b := 0) (n := n) (fun i hi => by rw [h i hi]; exact Nat.le_refl 0)
  omega
theorem tp_cntF_full {p : Nat → Bool} : ∀ {n : Nat}, n ≤ tp_cntF p n → ∀ i, i < n → p i = true := by
  intro n
  induction n with
  | zero => intro _ i hi; omega
  | succ n ih =>
    intro h i hi
    have h1 : tp_cntF p (n + 1) = tp_cntF p n + (p n).toNat := rfl
    have h2 := tp_cntF_le p n
    have h3 : (p n).toNat ≤ 1 := by cases p n <;> decide
    by_cases e : i = n
    · rw [e]
      cases hp : p n with
      | true => rfl
      | false => rw [hp] at h1; have h4 : (false).toNat = 0 := rfl; omega
    · exact ih (by omega) i (by omega)
theorem tp_cntF_pos {p : Nat → Bool} {n i : Nat} (hi : i < n) (hp : p i = true) : 0 < tp_cntF p n := by
  rcases Nat.eq_zero_or_pos (tp_cntF p n) with h | h
  · have := tp_sumF_zero h i hi; rw [hp] at this; cases this
  · exact h
theorem tp_cnt_loop {α : Type} {F : Nat → Int32 → Int32 → α} {N : Nat} {p : Nat → Bool} {fin : α} (h0 : F 1 (tp_nI (tp_cntF p N)) (tp_nI N) = fin)
    (h1 : ∀ n i a, i < N → F (n + 1) a (tp_nI i) = F n (if p i then a + 1 else a) (tp_nI i + 1)) : F (N + 1) 0 0 = fin :=
  tp_acc_loop0 (acc := fun i => tp_nI (tp_cntF p i)) h0 (fun n i hi => by
    rw [h1 n i _ hi]
    congr 1
    show _ = tp_nI (tp_cntF p i + (p i).toNat)
    cases p i with
    | true => exact tp_nI_s _
    | false => rfl)
def tp_bt (x : Int32) : Int32 := if x < 0 then 0 else 1 <<< (x &&& 31)
def tp_mK (l g : Int32) : Int32 := tp_bt l + tp_bt g
abbrev tp_onB (m x : Int32) : Prop := ((m >>> (x &&& 31)) - (m >>> (x &&& 31)) / 2 * 2) = 1
def tp_VV (l g : Int32) : Prop := (l = -1 ∧ g = -1) ∨ (∃ a, a < 12 ∧ l = tp_nI a ∧ g = -1) ∨ (∃ a b, a < b ∧ b < 12 ∧ l = tp_nI a ∧ g = tp_nI b)
theorem tp_bt_n {d : Nat} (h : d < 12) : 1 <<< (tp_nI d &&& 31) = tp_bt (tp_nI d) := by rw [tp_bt, if_neg (tp_nI_nn (by omega))]
theorem tp_on_0 : ∀ d, d < 12 → ¬ tp_onB (tp_mK (-1) (-1)) (tp_nI d) := by decide +kernel
theorem tp_on_1 : ∀ a, a < 12 → ∀ d, d < 12 → (tp_onB (tp_mK (tp_nI a) (-1)) (tp_nI d) ↔ d = a) := by decide +kernel
theorem tp_on_2 : ∀ a, a < 12 → ∀ b, b < 12 → a < b → ∀ d, d < 12 → (tp_onB (tp_mK (tp_nI a) (tp_nI b)) (tp_nI d) ↔ d = a ∨ d = b) := by decide +kernel
theorem tp_mk_z : tp_mK (-1) (-1) = 0 := by decide +kernel
theorem tp_mk_n1 : ∀ a, a < 12 → tp_mK (tp_nI a) (-1) ≠ 0 := by decide +kernel
theorem tp_mk_n2 : ∀ a, a < 12 → ∀ b, b < 12 → a < b → tp_mK (tp_nI a) (tp_nI b) ≠ 0 := by decide +kernel
theorem tp_mk_sw (l g : Int32) : tp_mK l g = tp_mK g l := Int32.add_comm _ _
theorem tp_bt_m : tp_bt (-1) = 0 := by decide +kernel
end
section
theorem tp_up_ne {σ : tp_St} {f k : Nat} {x : Int32} {g : Nat} (h : g ≠ f) : tp_up σ f k x g = σ g := if_neg h
theorem tp_up_at {σ : tp_St} {f k : Nat} {x : Int32} (j : Nat) : tp_up σ f k x f j = if j = k then x else σ f j := by
  show (if f = f then upd (σ f) k x else σ f) j = _
  rw [if_pos rfl]; rfl
theorem tp_up_eq {σ : tp_St} {f k : Nat} {x : Int32} : tp_up σ f k x f k = x := by rw [tp_up_at, if_pos rfl]
theorem tp_up_nk {σ : tp_St} {f k : Nat} {x : Int32} {j : Nat} (h : j ≠ k) : tp_up σ f k x f j = σ f j := by rw [tp_up_at, if_neg h]
def tp_bI (b : Bool) : Int32 := if b then 1 else 0
theorem tp_bI_0 (b : Bool) : (tp_bI b = 0) ↔ b = false := by cases b <;> decide
def tp_oN (σ : tp_St) (c d : Nat) : Bool := decide (σ 4 c = tp_nI d) || decide (σ 5 c = tp_nI d)
def tp_cn (σ : tp_St) (d : Nat) : Nat := tp_cntF (fun c => tp_oN σ c d) 400
def tp_Inv (σ : tp_St) : Prop :=
  (∀ d, d < 12 → ∃ P, P ≤ 200 ∧ σ 0 d = tp_nI P ∧ tp_cn σ d ≤ P) ∧
  (∀ d, d < 12 → σ 1 d = tp_nI (tp_cn σ d)) ∧
  (∀ d, d < 12 → σ 2 d = 0 ∨ (σ 2 d = 1 ∧ 0 < tp_cn σ d)) ∧
  (∀ c, c < 400 → (σ 3 c = 0 ∧ σ 4 c = -1 ∧ σ 5 c = -1) ∨ (σ 3 c = 1 ∧ tp_VV (σ 4 c) (σ 5 c)))
def tp_Rel (X : Nat → Prop) (σ τ : tp_St) : Prop :=
  (∀ d, d < 12 → (τ 1 d = σ 0 d ∨ (X d ∧ σ 0 d = 0 ∧ 0 < τ 1 d ∧ τ 2 d ≠ 0)) ∧ (0 < σ 0 d → τ 2 d = σ 2 d)) ∧
  (∀ c, c < 400 → τ 3 c = σ 3 c ∧ τ 4 c = tp_mK (σ 4 c) (σ 5 c)) ∧
  (∀ k, k < 1600 → τ 5 k = σ 6 k) ∧ τ 6 0 = σ 7 0
abbrev tp_noX : Nat → Prop := fun _ => False
theorem tp_Rel.pl {σ τ : tp_St} (h : tp_Rel tp_noX σ τ) {d : Nat} (hd : d < 12) : τ 1 d = σ 0 d := ((h.1 d hd).1).elim id (fun z => z.1.elim)
theorem tp_Rel.th {X : Nat → Prop} {σ τ : tp_St} (h : tp_Rel X σ τ) {c : Nat} (hc : c < 400) : τ 3 c = σ 3 c := (h.2.1 c hc).1
theorem tp_Rel.cp {X : Nat → Prop} {σ τ : tp_St} (h : tp_Rel X σ τ) {c : Nat} (hc : c < 400) : τ 4 c = tp_mK (σ 4 c) (σ 5 c) := (h.2.1 c hc).2
theorem tp_Rel.thrown {X : Nat → Prop} {σ τ : tp_St} (h : tp_Rel X σ τ) (x : Int32) : tp_Rel X σ (tp_up τ 0 0 x) := h
theorem tp_Inv.vv {σ : tp_St} (h : tp_Inv σ) {c : Nat} (hc : c < 400) : tp_VV (σ 4 c) (σ 5 c) := by
  rcases h.2.2.2 c hc with ⟨_, h1, h2⟩ | ⟨_, h1⟩
  · exact .inl ⟨h1, h2⟩
  · exact h1
theorem tp_Inv.ex {σ : tp_St} (h : tp_Inv σ) {c : Nat} (hc : c < 400) (hne : σ 4 c ≠ -1) : σ 3 c = 1 := by
  rcases h.2.2.2 c hc with ⟨_, h1, h2⟩ | ⟨h1, _⟩
  · exact absurd h1 hne
  · exact h1
theorem tp_cn_le (σ : tp_St) (d : Nat) : tp_cn σ d ≤ 400 := tp_cntF_le _ 400
def tp_th (σ : tp_St) (d : Nat) : Bool := decide (0 < σ 0 d)
def tp_sy (σ : tp_St) (d : Nat) : Bool := decide (0 < σ 0 d) && decide (σ 2 d = 0)
def tp_fr (σ : tp_St) (d : Nat) : Int32 := σ 0 d - σ 1 d
def tp_syv (σ : tp_St) (x : Int32) : Bool := if x = -1 then false else tp_sy σ x.toNatClampNeg
theorem tp_syv_m (σ : tp_St) : tp_syv σ (-1) = false := if_pos rfl
theorem tp_syv_n (σ : tp_St) {d : Nat} (h : d < 12) : tp_syv σ (tp_nI d) = tp_sy σ d := by rw [tp_syv, if_neg (tp_nI_m (by omega)), tp_td h]
theorem tp_C_isThere {σ : tp_St} {d : Nat} (h : d < 12) : fC_isThere σ (tp_nI d) = some (tp_bI (tp_th σ d)) := by
  rw [fC_isThere, if_neg (tp_nI_nn (by omega)), if_neg (tp_gd h), if_neg (tp_bd h), tp_td h]
  by_cases z : σ 0 d ≤ 0
  · rw [if_pos z, tp_th, decide_eq_false (by rw [Int32.not_lt]; exact z)]; rfl
  · rw [if_neg z, tp_th, decide_eq_true (Int32.not_le.mp z)]; rfl
theorem tp_C_isThere_m {σ : tp_St} : fC_isThere σ (-1) = some 0 := by rw [fC_isThere, if_pos (by decide)]
theorem tp_C_isThere_o {σ : tp_St} {x : Int32} (h : x < 0 ∨ 12 ≤ x) : fC_isThere σ x = some 0 := by
  rw [fC_isThere]
  rcases h with h | h
  · rw [if_pos h]
  · by_cases z : x < 0
    · rw [if_pos z]
    · rw [if_neg z, if_pos h]
theorem tp_C_stays {σ : tp_St} {d : Nat} (h : d < 12) : fC_stays σ (tp_nI d) = some (tp_bI (tp_sy σ d)) := by
  rw [fC_stays, tp_C_isThere h, Option.bind_some]
  by_cases z : 0 < σ 0 d
  · rw [tp_th, decide_eq_true z, if_neg (by decide), if_neg (tp_bd h), tp_td h, tp_sy, decide_eq_true z]
    by_cases y : σ 2 d = 0
    · rw [if_pos y, decide_eq_true y]; rfl
    · rw [if_neg y, decide_eq_false y]; rfl
  · rw [tp_th, decide_eq_false z, if_pos (by decide), tp_sy, decide_eq_false z]; rfl
theorem tp_C_stays_m {σ : tp_St} : fC_stays σ (-1) = some 0 := by rw [fC_stays, tp_C_isThere_m, Option.bind_some, if_pos rfl]
def tp_DD (x : Int32) : Prop := x = -1 ∨ ∃ d, d < 12 ∧ x = tp_nI d
theorem tp_VV.l {l g : Int32} (h : tp_VV l g) : tp_DD l := by
  rcases h with ⟨h, _⟩ | ⟨a, ha, h, _⟩ | ⟨a, b, h1, h2, h, _⟩
  · exact .inl h
  · exact .inr ⟨a, ha, h⟩
  · exact .inr ⟨a, by omega, h⟩
theorem tp_VV.g {l g : Int32} (h : tp_VV l g) : tp_DD g := by
  rcases h with ⟨_, h⟩ | ⟨a, ha, _, h⟩ | ⟨a, b, h1, h2, _, h⟩
  · exact .inl h
  · exact .inl h
  · exact .inr ⟨b, h2, h⟩
theorem tp_C_staysv {σ : tp_St} {x : Int32} (h : tp_DD x) : fC_stays σ x = some (tp_bI (tp_syv σ x)) := by
  rcases h with h | ⟨d, hd, h⟩
  · rw [h, tp_C_stays_m, tp_syv_m]; rfl
  · rw [h, tp_C_stays hd, tp_syv_n σ hd]
theorem tp_C_free {σ : tp_St} {d : Nat} (h : d < 12) : fC_freePlaces σ (tp_nI d) = some (tp_fr σ d) := by rw [fC_freePlaces, if_neg (tp_bd h), tp_td h, tp_fr]
def tp_swr (σ : tp_St) (x : Int32) : Bool := tp_syv σ x && decide (0 < tp_fr σ x.toNatClampNeg)
theorem tp_C_swr {σ : tp_St} {x : Int32} (h : tp_DD x) : fC_staysWithRoom σ x = some (tp_bI (tp_swr σ x)) := by
  rw [fC_staysWithRoom, tp_C_staysv h, Option.bind_some, tp_swr]
  cases hs : tp_syv σ x with
  | false => rw [if_pos (by decide)]; rfl
  | true =>
    rw [if_neg (by decide)]
    rcases h with h | ⟨d, hd, h⟩
    · rw [h, tp_syv_m] at hs; cases hs
    · rw [h, tp_C_free hd, Option.bind_some, tp_td hd]
      by_cases z : tp_fr σ d ≤ 0
      · rw [if_pos z, decide_eq_false (by rw [Int32.not_lt]; exact z)]; rfl
      · rw [if_neg z, decide_eq_true (Int32.not_le.mp z)]; rfl
theorem tp_C_isOn {σ : tp_St} {c : Nat} (h : c < 400) (x : Int32) : fC_isOn σ (tp_nI c) x = some (tp_bI (decide (σ 4 c = x) || decide (σ 5 c = x))) := by
  rw [fC_isOn, if_neg (tp_b4 h), tp_t4 h]
  by_cases y : σ 4 c = x
  · rw [if_pos y, decide_eq_true y]; rfl
  · rw [if_neg y, decide_eq_false y]
    by_cases z : σ 5 c = x
    · rw [if_pos z, decide_eq_true z]; rfl
    · rw [if_neg z, decide_eq_false z]; rfl
theorem tp_C_isOn' {σ : tp_St} {c : Nat} (h : c < 400) (d : Nat) : fC_isOn σ (tp_nI c) (tp_nI d) = some (tp_bI (tp_oN σ c d)) := tp_C_isOn h (tp_nI d)
def tp_ot (σ : tp_St) (c d : Nat) : Int32 := if σ 4 c = tp_nI d then σ 5 c else σ 4 c
theorem tp_C_other {σ : tp_St} {c : Nat} (h : c < 400) (d : Nat) : fC_otherThan σ (tp_nI c) (tp_nI d) = some (tp_ot σ c d) := by
  rw [fC_otherThan, if_neg (tp_b4 h), tp_t4 h, tp_ot]
  by_cases y : σ 4 c = tp_nI d
  · rw [if_pos y, if_pos y]
  · rw [if_neg y, if_neg y]
def tp_nc (σ : tp_St) (c : Nat) : Nat := if σ 4 c = -1 then 0 else if σ 5 c = -1 then 1 else 2
theorem tp_C_copies {σ : tp_St} {c : Nat} (h : c < 400) : fC_copiesOf σ (tp_nI c) = some (tp_nI (tp_nc σ c)) := by
  rw [fC_copiesOf, if_neg (tp_b4 h), tp_t4 h, tp_nc]
  by_cases y : σ 4 c = -1
  · rw [if_pos y, if_pos y]; rfl
  · rw [if_neg y, if_neg y]
    by_cases z : σ 5 c = -1
    · rw [if_pos z, if_pos z]; rfl
    · rw [if_neg z, if_neg z]; rfl
def tp_dg (σ : tp_St) (c : Nat) : Bool := decide (tp_nc σ c = 1)
theorem tp_nc_lt (σ : tp_St) (c : Nat) : tp_nc σ c < 3 := by
  unfold tp_nc
  by_cases y : σ 4 c = -1
  · rw [if_pos y]; omega
  · rw [if_neg y]
    by_cases z : σ 5 c = -1
    · rw [if_pos z]; omega
    · rw [if_neg z]; omega
theorem tp_C_deg {σ : tp_St} {c : Nat} (h : c < 400) : fC_isDegraded σ (tp_nI c) = some (tp_bI (tp_dg σ c)) := by
  rw [fC_isDegraded, tp_C_copies h, Option.bind_some, tp_dg]
  have := tp_nc_lt σ c
  by_cases y : tp_nc σ c = 1
  · rw [y, if_pos (show tp_nI 1 = 1 from rfl)]; rfl
  · rw [if_neg (show ¬ tp_nI (tp_nc σ c) = 1 from fun z => y ((tp_nI_eq (j := 1) (by omega) (by omega)).mp z)), decide_eq_false y]; rfl
theorem tp_C_isChunk {σ : tp_St} {c : Nat} (h : c < 400) : fC_isChunk σ (tp_nI c) = some (tp_bI (decide (σ 3 c ≠ 0))) := by
  rw [fC_isChunk, if_neg (tp_nI_nn (by omega)), if_neg (tp_g4 h), if_neg (tp_b4 h), tp_t4 h]
  by_cases y : σ 3 c = 0
  · rw [if_pos y, decide_eq_false (fun z => z y)]; rfl
  · rw [if_neg y, decide_eq_true y]; rfl
theorem tp_C_isChunk_o {σ : tp_St} {x : Int32} (h : x < 0 ∨ 400 ≤ x) : fC_isChunk σ x = some 0 := by
  rw [fC_isChunk]
  rcases h with h | h
  · rw [if_pos h]
  · by_cases z : x < 0
    · rw [if_pos z]
    · rw [if_neg z, if_pos h]
theorem tp_M_isDisk {σ τ : tp_St} (R : tp_Rel tp_noX σ τ) {d : Nat} (h : d < 12) : fM_isDisk τ (tp_nI d) = some (tp_bI (tp_th σ d)) := by
  rw [fM_isDisk, if_neg (tp_nI_nn (by omega)), if_neg (tp_gd h), if_neg (tp_bd h), tp_td h, R.pl h]
  by_cases z : σ 0 d ≤ 0
  · rw [if_pos z, tp_th, decide_eq_false (by rw [Int32.not_lt]; exact z)]; rfl
  · rw [if_neg z, tp_th, decide_eq_true (Int32.not_le.mp z)]; rfl
theorem tp_M_isDisk_o {τ : tp_St} {x : Int32} (h : x < 0 ∨ 12 ≤ x) : fM_isDisk τ x = some 0 := by
  rw [fM_isDisk]
  rcases h with h | h
  · rw [if_pos h]
  · by_cases z : x < 0
    · rw [if_pos z]
    · rw [if_neg z, if_pos h]
theorem tp_M_isChunk {X : Nat → Prop} {σ τ : tp_St} (R : tp_Rel X σ τ) {c : Nat} (h : c < 400) : fM_isChunk τ (tp_nI c) = some (tp_bI (decide (σ 3 c ≠ 0))) := by
  rw [fM_isChunk, if_neg (tp_nI_nn (by omega)), if_neg (tp_g4 h), if_neg (tp_b4 h), tp_t4 h, R.th h]
  by_cases y : σ 3 c = 0
  · rw [if_pos y, decide_eq_false (fun z => z y)]; rfl
  · rw [if_neg y, decide_eq_true y]; rfl
theorem tp_M_isChunk_o {τ : tp_St} {x : Int32} (h : x < 0 ∨ 400 ≤ x) : fM_isChunk τ x = some 0 := by
  rw [fM_isChunk]
  rcases h with h | h
  · rw [if_pos h]
  · by_cases z : x < 0
    · rw [if_pos z]
    · rw [if_neg z, if_pos h]
theorem tp_M_stays {σ τ : tp_St} (R : tp_Rel tp_noX σ τ) {d : Nat} (h : d < 12) : fM_stays τ (tp_nI d) = some (tp_bI (tp_sy σ d)) := by
  rw [fM_stays, if_neg (tp_bd h), tp_td h, R.pl h, tp_sy]
  by_cases z : 0 < σ 0 d
  · rw [if_neg (Int32.not_le.mpr z), (R.1 d h).2 z, decide_eq_true z]
    by_cases y : σ 2 d = 0
    · rw [if_pos y, decide_eq_true y]; rfl
    · rw [if_neg y, decide_eq_false y]; rfl
  · rw [if_pos (Int32.not_lt.mp z), decide_eq_false z]; rfl
theorem tp_on_V {σ : tp_St} {c d : Nat} (h : tp_VV (σ 4 c) (σ 5 c)) (hd : d < 12) : tp_onB (tp_mK (σ 4 c) (σ 5 c)) (tp_nI d) ↔ tp_oN σ c d = true := by
  rw [tp_oN]
  rcases h with ⟨h1, h2⟩ | ⟨a, ha, h1, h2⟩ | ⟨a, b, ha, hb, h1, h2⟩
  · rw [h1, h2]
    rw [decide_eq_false (tp_nI_m' (by omega))]
    exact ⟨fun z => absurd z (tp_on_0 d hd), fun z => by cases z⟩
  · rw [h1, h2, decide_eq_false (tp_nI_m' (i := d) (by omega)), Bool.or_false, decide_eq_true_eq, tp_nI_eq (by omega) (by omega)]
    exact ⟨fun z => ((tp_on_1 a ha d hd).mp z).symm, fun z => (tp_on_1 a ha d hd).mpr z.symm⟩
  · rw [h1, h2, Bool.or_eq_true, decide_eq_true_eq, decide_eq_true_eq, tp_nI_eq (by omega) (by omega), tp_nI_eq (by omega) (by omega)]
    have k := tp_on_2 a (by omega) b hb ha d hd
    exact ⟨fun z => (k.mp z).imp Eq.symm Eq.symm, fun z => k.mpr (z.imp Eq.symm Eq.symm)⟩
theorem tp_M_isOn {X : Nat → Prop} {σ τ : tp_St} (I : tp_Inv σ) (R : tp_Rel X σ τ) {c d : Nat} (h : c < 400) (hd : d < 12) : fM_isOn τ (tp_nI c) (tp_nI d) = some (tp_bI (tp_oN σ c d)) := by
  rw [fM_isOn, if_neg (tp_b4 h), tp_t4 h, R.th h, R.cp h]
  by_cases y : σ 3 c = 0
  · rw [if_pos y]
    have h4 : σ 4 c = -1 ∧ σ 5 c = -1 := by
      rcases I.2.2.2 c h with z | z
      · exact z.2
      · rw [z.1] at y; exact absurd y (by decide)
    rw [tp_oN, h4.1, h4.2, decide_eq_false (tp_nI_m' (by omega))]; rfl
  · rw [if_neg y]
    by_cases z : tp_onB (tp_mK (σ 4 c) (σ 5 c)) (tp_nI d)
    · rw [if_pos z, (tp_on_V (I.vv h) hd).mp z]; rfl
    · rw [if_neg z, Bool.eq_false_iff.mpr (fun w => z ((tp_on_V (I.vv h) hd).mpr w))]; rfl
theorem tp_if_bI {α : Type} (b : Bool) (x y : α) : (if tp_bI b = 0 then x else y) = if b then y else x := by cases b <;> rfl
theorem tp_M_used {X : Nat → Prop} {σ τ : tp_St} (I : tp_Inv σ) (R : tp_Rel X σ τ) {d : Nat} (hd : d < 12) : fM_used τ (tp_nI d) = some (tp_nI (tp_cn σ d)) :=
  tp_cnt_loop (F := fun n a x => fM_used_L4 τ (tp_nI d) n a x) (N := 400) (p := fun c => tp_oN σ c d) (by rw [fM_used_L4, if_pos (by decide)]; rfl) (fun n i a hi => by
    show fM_used_L4 τ (tp_nI d) (n + 1) a (tp_nI i) = fM_used_L4 τ (tp_nI d) n _ (tp_nI i + 1)
    rw [fM_used_L4, if_neg (tp_g4 hi), tp_M_isOn I R hi hd, Option.bind_some, tp_if_bI]
    cases tp_oN σ i d <;> rfl)
theorem tp_M_freeOn {σ τ : tp_St} (I : tp_Inv σ) (R : tp_Rel tp_noX σ τ) {d : Nat} (hd : d < 12) : fM_freeOn τ (tp_nI d) = some (tp_fr σ d) := by
  rw [fM_freeOn, if_neg (tp_bd hd), tp_M_used I R hd, Option.bind_some, tp_td hd, R.pl hd, tp_fr, I.2.1 d hd]
theorem tp_nc_cnt0 : tp_cntF (fun d => decide ((-1 : Int32) = tp_nI d) || decide ((-1 : Int32) = tp_nI d)) 12 = 0 := by decide +kernel
theorem tp_nc_cnt1 : ∀ a, a < 12 → tp_cntF (fun d => decide (tp_nI a = tp_nI d) || decide ((-1 : Int32) = tp_nI d)) 12 = 1 := by decide +kernel
theorem tp_nc_cnt2 : ∀ a, a < 12 → ∀ b, b < 12 → a < b → tp_cntF (fun d => decide (tp_nI a = tp_nI d) || decide (tp_nI b = tp_nI d)) 12 = 2 := by decide +kernel
theorem tp_nc_cnt {σ : tp_St} {c : Nat} (h : tp_VV (σ 4 c) (σ 5 c)) : tp_cntF (fun d => tp_oN σ c d) 12 = tp_nc σ c := by
  unfold tp_oN tp_nc
  rcases h with ⟨h1, h2⟩ | ⟨a, ha, h1, h2⟩ | ⟨a, b, ha, hb, h1, h2⟩
  · rw [h1, h2, if_pos rfl]; exact tp_nc_cnt0
  · rw [h1, h2, if_neg (tp_nI_m (by omega)), if_pos rfl]; exact tp_nc_cnt1 a ha
  · rw [h1, h2, if_neg (tp_nI_m (by omega)), if_neg (tp_nI_m (by omega))]; exact tp_nc_cnt2 a (by omega) b hb ha
theorem tp_M_howMany {X : Nat → Prop} {σ τ : tp_St} (I : tp_Inv σ) (R : tp_Rel X σ τ) {c : Nat} (hc : c < 400) : fM_howMany τ (tp_nI c) = some (tp_nI (tp_nc σ c)) := by
  rw [← tp_nc_cnt (I.vv hc)]
  exact tp_cnt_loop (F := fun n a x => fM_howMany_L4 τ (tp_nI c) n a x) (N := 12) (p := fun d => tp_oN σ c d) (by rw [fM_howMany_L4, if_pos (by decide)]) (fun n i a hi => by
    show fM_howMany_L4 τ (tp_nI c) (n + 1) a (tp_nI i) = fM_howMany_L4 τ (tp_nI c) n _ (tp_nI i + 1)
    rw [fM_howMany_L4, if_neg (tp_gd hi), tp_M_isOn I R hc hi, Option.bind_some, tp_if_bI]
    cases tp_oN σ c i <;> rfl)
end
section
def tp_eM (q : Nat → Bool) (f : Nat → Int32) : Nat → Option Nat
  | 0 => none
  | n + 1 => if q n && decide (0 < f n) && (tp_eM q f n).elim true (fun b => decide (f b < f n)) then some n else tp_eM q f n
def tp_enc (o : Option Nat) : Int32 := o.elim (-1) tp_nI
theorem tp_eM_some {q : Nat → Bool} {f : Nat → Int32} : ∀ {n d : Nat}, tp_eM q f n = some d → d < n ∧ q d = true ∧ 0 < f d := by
  intro n
  induction n with
  | zero => intro d h; cases h
  | succ n ih =>
    intro d h
    rw [tp_eM] at h
    by_cases z : (q n && decide (0 < f n) && (tp_eM q f n).elim true (fun b => decide (f b < f n))) = true
    · rw [if_pos z] at h
      cases h
      rw [Bool.and_eq_true, Bool.and_eq_true] at z
      exact ⟨by omega, z.1.1, of_decide_eq_true z.1.2⟩
    · rw [if_neg z] at h
      have := ih h
      exact ⟨by omega, this.2⟩
theorem tp_eM_no {q : Nat → Bool} {f : Nat → Int32} {n : Nat} (h : q n = false) : tp_eM q f (n + 1) = tp_eM q f n := by
  rw [tp_eM, h]; rfl
theorem tp_eM_n {q : Nat → Bool} {f : Nat → Int32} {n : Nat} (h : q n = true) (he : tp_eM q f n = none) : tp_eM q f (n + 1) = if 0 < f n then some n else none := by
  rw [tp_eM, he, h]
  by_cases z : 0 < f n
  · rw [if_pos z, decide_eq_true z]; rfl
  · rw [if_neg z, decide_eq_false z]; rfl
theorem tp_eM_s {q : Nat → Bool} {f : Nat → Int32} {n b : Nat} (h : q n = true) (he : tp_eM q f n = some b) : tp_eM q f (n + 1) = if f b < f n then some n else some b := by
  have hb := (tp_eM_some he).2.2
  rw [tp_eM, he, h]
  by_cases z : f b < f n
  · rw [if_pos z]
    show (if (true && decide (0 < f n) && decide (f b < f n)) = true then _ else _) = _
    rw [decide_eq_true z, decide_eq_true (Int32.lt_trans hb z)]; rfl
  · rw [if_neg z]
    show (if (true && decide (0 < f n) && decide (f b < f n)) = true then _ else _) = _
    rw [decide_eq_false z, Bool.and_false]; rfl
theorem tp_eM_none {q : Nat → Bool} {f : Nat → Int32} : ∀ {n : Nat}, tp_eM q f n = none → ∀ d, d < n → q d = true → ¬ 0 < f d := by
  intro n
  induction n with
  | zero => intro _ d hd; omega
  | succ n ih =>
    intro h d hd hq hf
    cases hn : q n with
    | false =>
      rw [tp_eM_no hn] at h
      by_cases e : d = n
      · rw [e, hn] at hq; cases hq
      · exact ih h d (by omega) hq hf
    | true =>
      cases he : tp_eM q f n with
      | some b =>
        rw [tp_eM_s hn he] at h
        by_cases z : f b < f n
        · rw [if_pos z] at h; cases h
        · rw [if_neg z] at h; cases h
      | none =>
        rw [tp_eM_n hn he] at h
        by_cases z : 0 < f n
        · rw [if_pos z] at h; cases h
        · by_cases e : d = n
          · rw [e] at hf; exact z hf
          · exact ih he d (by omega) hq hf
theorem tp_eM_congr {q r : Nat → Bool} {f : Nat → Int32} : ∀ {n : Nat}, (∀ d, d < n → q d = r d) → tp_eM q f n = tp_eM r f n := by
  intro n
  induction n with
  | zero => intro _; rfl
  | succ n ih => intro h; rw [tp_eM, tp_eM, ih (fun d hd => h d (by omega)), h n (by omega)]
theorem tp_eM_ex {q : Nat → Bool} {f : Nat → Int32} {n d : Nat} (hd : d < n) (hq : q d = true) (hf : 0 < f d) : ∃ e, tp_eM q f n = some e := by
  cases h : tp_eM q f n with
  | some e => exact ⟨e, rfl⟩
  | none => exact absurd hf (tp_eM_none h d hd hq)
theorem tp_enc_lt {o : Option Nat} (h : ∀ d, o = some d → d < 2000000) : (tp_enc o = -1 ↔ o = none) ∧ (tp_enc o < 0 ↔ o = none) ∧ (0 ≤ tp_enc o ↔ o ≠ none) := by
  cases o with
  | none => exact ⟨⟨fun _ => rfl, fun _ => rfl⟩, ⟨fun _ => rfl, fun _ => by decide⟩, ⟨fun z => absurd z (by decide), fun z => absurd rfl z⟩⟩
  | some d =>
    have hd := h d rfl
    refine ⟨⟨fun z => absurd z (tp_nI_m hd), fun z => by cases z⟩, ⟨fun z => absurd z (tp_nI_nn hd), fun z => by cases z⟩, ⟨fun _ z => (by cases z), fun _ => Int32.not_lt.mp (tp_nI_nn hd)⟩⟩
def tp_qB (σ : tp_St) (x : Int32) (d : Nat) : Bool := decide (tp_nI d ≠ x) && tp_sy σ d
def tp_qO (σ : tp_St) (c d : Nat) : Bool := !tp_oN σ c d && tp_sy σ d
theorem tp_C_emp {σ : tp_St} (x : Int32) : fC_emptiestBut σ x = some (tp_enc (tp_eM (tp_qB σ x) (tp_fr σ) 12)) := by
  refine tp_acc_loop0 (F := fun n (b : Int32 × Int32) y => fC_emptiestBut_L7 σ x n b.1 b.2 y) (N := 12) (acc := fun i => (tp_enc (tp_eM (tp_qB σ x) (tp_fr σ) i), (tp_eM (tp_qB σ x) (tp_fr σ) i).elim 0 (tp_fr σ))) ?_ ?_
  · show fC_emptiestBut_L7 σ x 1 _ _ (tp_nI 12) = _
    rw [fC_emptiestBut_L7, if_pos (by decide)]
  · intro n i hi
    show fC_emptiestBut_L7 σ x (n + 1) (tp_enc (tp_eM (tp_qB σ x) (tp_fr σ) i)) ((tp_eM (tp_qB σ x) (tp_fr σ) i).elim 0 (tp_fr σ)) (tp_nI i) = fC_emptiestBut_L7 σ x n (tp_enc (tp_eM (tp_qB σ x) (tp_fr σ) (i + 1))) ((tp_eM (tp_qB σ x) (tp_fr σ) (i + 1)).elim 0 (tp_fr σ)) (tp_nI i + 1)
    rw [fC_emptiestBut_L7, if_neg (tp_gd hi)]
    by_cases y : tp_nI i = x
    · rw [if_pos y, tp_eM_no (q := tp_qB σ x) (n := i) (by rw [tp_qB, decide_eq_false (fun z => z y)]; rfl)]
    · rw [if_neg y, tp_C_stays hi, Option.bind_some, tp_if_bI]
      cases hs : tp_sy σ i with
      | false => rw [if_neg (by decide), tp_eM_no (q := tp_qB σ x) (n := i) (by rw [tp_qB, hs, Bool.and_false])]
      | true =>
        have hq : tp_qB σ x i = true := by rw [tp_qB, hs, decide_eq_true y]; rfl
        rw [if_pos rfl, tp_C_free hi, Option.bind_some]
        cases he : tp_eM (tp_qB σ x) (tp_fr σ) i with
        | none =>
          rw [tp_eM_n hq he]
          by_cases z : 0 < tp_fr σ i
          · rw [if_pos z, if_neg (by show ¬ tp_fr σ i ≤ 0; exact Int32.not_le.mpr z)]; rfl
          · rw [if_neg z, if_pos (by show tp_fr σ i ≤ 0; exact Int32.not_lt.mp z)]
        | some b =>
          rw [tp_eM_s hq he]
          by_cases z : tp_fr σ b < tp_fr σ i
          · rw [if_pos z, if_neg (by show ¬ tp_fr σ i ≤ tp_fr σ b; exact Int32.not_le.mpr z)]; rfl
          · rw [if_neg z, if_pos (by show tp_fr σ i ≤ tp_fr σ b; exact Int32.not_lt.mp z)]
theorem tp_eM_12 {q : Nat → Bool} {f : Nat → Int32} {i b : Nat} (hi : i ≤ 12) (h : tp_eM q f i = some b) : b < 12 := by
  have := (tp_eM_some h).1
  omega
theorem tp_M_empT {σ τ : tp_St} (I : tp_Inv σ) (R : tp_Rel tp_noX σ τ) {q : Nat → Bool} {i : Nat} (hi : i < 12) (hq : q i = true) (hf : 0 < tp_fr σ i) {α : Type} (K : Int32 → Option α) :
    (if tp_enc (tp_eM q (tp_fr σ) i) < 0 then K (tp_nI i) else (fM_freeOn τ (tp_nI i)).bind fun a => (fM_freeOn τ (tp_enc (tp_eM q (tp_fr σ) i))).bind fun b => if a ≤ b then K (tp_enc (tp_eM q (tp_fr σ) i)) else K (tp_nI i)) = K (tp_enc (tp_eM q (tp_fr σ) (i + 1))) := by
  cases he : tp_eM q (tp_fr σ) i with
  | none => rw [if_pos (by show (-1 : Int32) < 0; decide), tp_eM_n hq he, if_pos hf]; rfl
  | some b =>
    have hb : b < 12 := tp_eM_12 (by omega) he
    rw [tp_eM_s hq he]
    show (if tp_nI b < 0 then K (tp_nI i) else (fM_freeOn τ (tp_nI i)).bind fun a => (fM_freeOn τ (tp_nI b)).bind fun b' => if a ≤ b' then K (tp_nI b) else K (tp_nI i)) = _
    rw [if_neg (tp_nI_nn (by omega)), tp_M_freeOn I R hi, Option.bind_some, tp_M_freeOn I R hb, Option.bind_some]
    by_cases z : tp_fr σ b < tp_fr σ i
    · rw [if_pos z, if_neg (Int32.not_le.mpr z)]; rfl
    · rw [if_neg z, if_pos (Int32.not_lt.mp z)]; rfl
theorem tp_M_emp1 {σ τ : tp_St} (I : tp_Inv σ) (R : tp_Rel tp_noX σ τ) (x : Int32) : fM_emptiest τ x (-1) = some (tp_enc (tp_eM (tp_qB σ x) (tp_fr σ) 12)) := by
  refine tp_acc_loop0 (F := fun n (b : Int32) y => fM_emptiest_L5 τ x (-1) n b y) (N := 12) (acc := fun i => tp_enc (tp_eM (tp_qB σ x) (tp_fr σ) i)) ?_ ?_
  · show fM_emptiest_L5 τ x (-1) 1 _ (tp_nI 12) = _
    rw [fM_emptiest_L5, if_pos (by decide)]
  · intro n i hi
    show fM_emptiest_L5 τ x (-1) (n + 1) (tp_enc (tp_eM (tp_qB σ x) (tp_fr σ) i)) (tp_nI i) = fM_emptiest_L5 τ x (-1) n (tp_enc (tp_eM (tp_qB σ x) (tp_fr σ) (i + 1))) (tp_nI i + 1)
    rw [fM_emptiest_L5, if_neg (tp_gd hi), tp_M_stays R hi, Option.bind_some, tp_if_bI]
    cases hs : tp_sy σ i with
    | false => rw [if_neg (by decide), tp_eM_no (q := tp_qB σ x) (n := i) (by rw [tp_qB, hs, Bool.and_false])]
    | true =>
      rw [if_pos rfl]
      by_cases y : tp_nI i = x
      · rw [if_pos y, tp_eM_no (q := tp_qB σ x) (n := i) (by rw [tp_qB, decide_eq_false (fun z => z y)]; rfl)]
      · have hq : tp_qB σ x i = true := by rw [tp_qB, hs, decide_eq_true y]; rfl
        rw [if_neg y, tp_M_freeOn I R hi, Option.bind_some]
        by_cases z : 0 < tp_fr σ i
        · rw [if_neg (Int32.not_le.mpr z), if_pos (by decide : (-1 : Int32) < 0)]
          have := tp_M_empT I R hi hq z (fun a => fM_emptiest_L5 τ x (-1) n a (tp_nI i + 1))
          rw [tp_M_freeOn I R hi, Option.bind_some] at this
          exact this
        · rw [if_pos (Int32.not_lt.mp z)]
          cases he : tp_eM (tp_qB σ x) (tp_fr σ) i with
          | none => rw [tp_eM_n hq he, if_neg z]
          | some b => rw [tp_eM_s hq he, if_neg (fun w => z (Int32.lt_trans (tp_eM_some he).2.2 w))]
theorem tp_M_emp2 {σ τ : tp_St} (I : tp_Inv σ) (R : tp_Rel tp_noX σ τ) {c : Nat} (hc : c < 400) : fM_emptiest τ (-1) (tp_nI c) = some (tp_enc (tp_eM (tp_qO σ c) (tp_fr σ) 12)) := by
  refine tp_acc_loop0 (F := fun n (b : Int32) y => fM_emptiest_L5 τ (-1) (tp_nI c) n b y) (N := 12) (acc := fun i => tp_enc (tp_eM (tp_qO σ c) (tp_fr σ) i)) ?_ ?_
  · show fM_emptiest_L5 τ (-1) (tp_nI c) 1 _ (tp_nI 12) = _
    rw [fM_emptiest_L5, if_pos (by decide)]
  · intro n i hi
    show fM_emptiest_L5 τ (-1) (tp_nI c) (n + 1) (tp_enc (tp_eM (tp_qO σ c) (tp_fr σ) i)) (tp_nI i) = fM_emptiest_L5 τ (-1) (tp_nI c) n (tp_enc (tp_eM (tp_qO σ c) (tp_fr σ) (i + 1))) (tp_nI i + 1)
    rw [fM_emptiest_L5, if_neg (tp_gd hi), tp_M_stays R hi, Option.bind_some, tp_if_bI]
    cases hs : tp_sy σ i with
    | false => rw [if_neg (by decide), tp_eM_no (q := tp_qO σ c) (n := i) (by rw [tp_qO, hs, Bool.and_false])]
    | true =>
      rw [if_pos rfl, if_neg (tp_nI_m (by omega)), tp_M_freeOn I R hi, Option.bind_some]
      by_cases z : 0 < tp_fr σ i
      · rw [if_neg (Int32.not_le.mpr z), if_neg (tp_nI_nn (by omega)), tp_M_isOn I R hc hi, Option.bind_some, tp_if_bI]
        cases ho : tp_oN σ c i with
        | true => rw [if_pos rfl, tp_eM_no (q := tp_qO σ c) (n := i) (by rw [tp_qO, ho]; rfl)]
        | false =>
          have hq : tp_qO σ c i = true := by rw [tp_qO, hs, ho]; rfl
          rw [if_neg (by decide)]
          have := tp_M_empT I R hi hq z (fun a => fM_emptiest_L5 τ (-1) (tp_nI c) n a (tp_nI i + 1))
          rw [tp_M_freeOn I R hi, Option.bind_some] at this
          exact this
      · rw [if_pos (Int32.not_lt.mp z)]
        cases ho : tp_oN σ c i with
        | true => rw [tp_eM_no (q := tp_qO σ c) (n := i) (by rw [tp_qO, ho]; rfl)]
        | false =>
          have hq : tp_qO σ c i = true := by rw [tp_qO, hs, ho]; rfl
          cases he : tp_eM (tp_qO σ c) (tp_fr σ) i with
          | none => rw [tp_eM_n hq he, if_neg z]
          | some b => rw [tp_eM_s hq he, if_neg (fun w => z (Int32.lt_trans (tp_eM_some he).2.2 w))]
def tp_cP (q : Nat → Bool) (f : Nat → Int32) : Nat → Int32 × Int32
  | 0 => (0, 0)
  | n + 1 => if q n then ((tp_cP q f n).1 + f n, if (tp_cP q f n).2 < f n then f n else (tp_cP q f n).2) else tp_cP q f n
def tp_cap (q : Nat → Bool) (f : Nat → Int32) : Int32 := if (tp_cP q f 12).1 - (tp_cP q f 12).2 < (tp_cP q f 12).1 / 2 then (tp_cP q f 12).1 - (tp_cP q f 12).2 else (tp_cP q f 12).1 / 2
theorem tp_C_cap {σ : tp_St} (x : Int32) : fC_capacityWithout σ x = some (tp_cap (tp_qB σ x) (σ 0)) := by
  refine tp_acc_loop0 (F := fun n (b : Int32 × Int32) y => fC_capacityWithout_L7 σ x n b.1 b.2 y) (N := 12) (acc := fun i => tp_cP (tp_qB σ x) (σ 0) i) ?_ ?_
  · show fC_capacityWithout_L7 σ x 1 _ _ (tp_nI 12) = _
    rw [fC_capacityWithout_L7, if_pos (by decide)]; rfl
  · intro n i hi
    show fC_capacityWithout_L7 σ x (n + 1) _ _ (tp_nI i) = fC_capacityWithout_L7 σ x n (tp_cP (tp_qB σ x) (σ 0) (i + 1)).1 (tp_cP (tp_qB σ x) (σ 0) (i + 1)).2 (tp_nI i + 1)
    rw [fC_capacityWithout_L7, if_neg (tp_gd hi), tp_cP]
    by_cases y : tp_nI i = x
    · rw [if_pos y, if_neg (show ¬ tp_qB σ x i = true by rw [tp_qB, decide_eq_false (fun z => z y), Bool.false_and]; decide)]
    · rw [if_neg y, tp_C_stays hi, Option.bind_some, tp_if_bI]
      cases hs : tp_sy σ i with
      | false => rw [if_neg (by decide), if_neg (show ¬ tp_qB σ x i = true by rw [tp_qB, hs, Bool.and_false]; decide)]
      | true => rw [if_pos rfl, if_pos (show tp_qB σ x i = true by rw [tp_qB, hs, decide_eq_true (show tp_nI i ≠ x from y)]; rfl), if_neg (tp_bd hi), tp_td hi]
theorem tp_M_cap {σ τ : tp_St} (R : tp_Rel tp_noX σ τ) (x : Int32) : fM_capacity τ x = some (tp_cap (tp_qB σ x) (σ 0)) := by
  refine tp_acc_loop0 (F := fun n (b : Int32 × Int32) y => fM_capacity_L7 τ x n b.1 b.2 y) (N := 12) (acc := fun i => tp_cP (tp_qB σ x) (σ 0) i) ?_ ?_
  · show fM_capacity_L7 τ x 1 _ _ (tp_nI 12) = _
    rw [fM_capacity_L7, if_pos (by decide), tp_cap]
    by_cases z : (tp_cP (tp_qB σ x) (σ 0) 12).1 - (tp_cP (tp_qB σ x) (σ 0) 12).2 < (tp_cP (tp_qB σ x) (σ 0) 12).1 / 2
    · rw [if_pos z, if_pos (Int32.le_of_lt z)]
    · rw [if_neg z]
      by_cases w : (tp_cP (tp_qB σ x) (σ 0) 12).1 - (tp_cP (tp_qB σ x) (σ 0) 12).2 ≤ (tp_cP (tp_qB σ x) (σ 0) 12).1 / 2
      · rw [if_pos w, Int32.le_antisymm w (Int32.not_lt.mp z)]
      · rw [if_neg w]
  · intro n i hi
    show fM_capacity_L7 τ x (n + 1) _ _ (tp_nI i) = fM_capacity_L7 τ x n (tp_cP (tp_qB σ x) (σ 0) (i + 1)).1 (tp_cP (tp_qB σ x) (σ 0) (i + 1)).2 (tp_nI i + 1)
    rw [fM_capacity_L7, if_neg (tp_gd hi), tp_M_stays R hi, Option.bind_some, tp_if_bI, tp_cP]
    cases hs : tp_sy σ i with
    | false => rw [if_neg (by decide), if_neg (show ¬ tp_qB σ x i = true by rw [tp_qB, hs, Bool.and_false]; decide)]
    | true =>
      rw [if_pos rfl]
      by_cases y : tp_nI i = x
      · rw [if_pos y, if_neg (show ¬ tp_qB σ x i = true by rw [tp_qB, decide_eq_false (fun z => z y), Bool.false_and]; decide)]
      · rw [if_neg y, if_neg (tp_bd hi), tp_td hi, R.pl hi, if_pos (show tp_qB σ x i = true by rw [tp_qB, hs, decide_eq_true (show tp_nI i ≠ x from y)]; rfl)]
        by_cases z : (tp_cP (tp_qB σ x) (σ 0) i).2 < σ 0 i
        · rw [if_neg (Int32.not_le.mpr z), if_pos z]
        · rw [if_pos (Int32.not_lt.mp z), if_neg z]
def tp_cw (σ : tp_St) (k : Nat) : Nat := tp_cntF (fun c => decide (σ 3 c ≠ 0) && decide (tp_nc σ c = k)) 400
def tp_al (σ : tp_St) : Nat := tp_cntF (fun c => decide (σ 3 c ≠ 0)) 400
theorem tp_C_cw {σ : tp_St} {k : Nat} (hk : k < 3) : fC_chunksWith σ (tp_nI k) = some (tp_nI (tp_cw σ k)) :=
  tp_cnt_loop (F := fun n a x => fC_chunksWith_L4 σ (tp_nI k) n a x) (N := 400) (p := fun c => decide (σ 3 c ≠ 0) && decide (tp_nc σ c = k)) (by rw [fC_chunksWith_L4, if_pos (by decide)]; rfl) (fun n i a hi => by
    show fC_chunksWith_L4 σ (tp_nI k) (n + 1) a (tp_nI i) = fC_chunksWith_L4 σ (tp_nI k) n _ (tp_nI i + 1)
    rw [fC_chunksWith_L4, if_neg (tp_g4 hi), if_neg (tp_b4 hi), tp_t4 hi]
    by_cases y : σ 3 i = 0
    · rw [if_pos y, decide_eq_false (fun z => z y)]; rfl
    · have := tp_nc_lt σ i
      rw [if_neg y, decide_eq_true y, tp_C_copies hi, Option.bind_some, Bool.true_and]
      by_cases z : tp_nc σ i = k
      · rw [decide_eq_true z, z, if_pos rfl]; rfl
      · rw [decide_eq_false z, if_neg (fun w => z ((tp_nI_eq (by omega) (by omega)).mp w))]; rfl)
theorem tp_M_cw {X : Nat → Prop} {σ τ : tp_St} (I : tp_Inv σ) (R : tp_Rel X σ τ) {k : Nat} (hk : k < 3) : fM_countWith τ (tp_nI k) = some (tp_nI (tp_cw σ k)) :=
  tp_cnt_loop (F := fun n a x => fM_countWith_L4 τ (tp_nI k) n a x) (N := 400) (p := fun c => decide (σ 3 c ≠ 0) && decide (tp_nc σ c = k)) (by rw [fM_countWith_L4, if_pos (by decide)]; rfl) (fun n i a hi => by
    show fM_countWith_L4 τ (tp_nI k) (n + 1) a (tp_nI i) = fM_countWith_L4 τ (tp_nI k) n _ (tp_nI i + 1)
    rw [fM_countWith_L4, if_neg (tp_g4 hi), if_neg (tp_b4 hi), tp_t4 hi, R.th hi]
    by_cases y : σ 3 i = 0
    · rw [if_pos y, decide_eq_false (fun z => z y)]; rfl
    · have := tp_nc_lt σ i
      rw [if_neg y, decide_eq_true y, tp_M_howMany I R hi, Option.bind_some, Bool.true_and]
      by_cases z : tp_nc σ i = k
      · rw [decide_eq_true z, z, if_pos rfl]; rfl
      · rw [decide_eq_false z, if_neg (fun w => z ((tp_nI_eq (by omega) (by omega)).mp w))]; rfl)
theorem tp_C_al {σ : tp_St} : fC_allChunks σ = some (tp_nI (tp_al σ)) :=
  tp_cnt_loop (F := fun n a x => fC_allChunks_L4 σ n a x) (N := 400) (p := fun c => decide (σ 3 c ≠ 0)) (by rw [fC_allChunks_L4, if_pos (by decide)]; rfl) (fun n i a hi => by
    show fC_allChunks_L4 σ (n + 1) a (tp_nI i) = fC_allChunks_L4 σ n _ (tp_nI i + 1)
    rw [fC_allChunks_L4, if_neg (tp_g4 hi), if_neg (tp_b4 hi), tp_t4 hi]
    by_cases y : σ 3 i = 0
    · rw [if_pos y, decide_eq_false (fun z => z y)]; rfl
    · rw [if_neg y, decide_eq_true y]; rfl)
theorem tp_al_cw (σ : tp_St) : tp_al σ = tp_cw σ 0 + tp_cw σ 1 + tp_cw σ 2 := by
  unfold tp_al tp_cw
  show tp_sumF _ 400 = tp_sumF _ 400 + tp_sumF _ 400 + tp_sumF _ 400
  rw [← tp_sumF_add, ← tp_sumF_add]
  refine tp_sumF_congr (fun i _ => ?_)
  have := tp_nc_lt σ i
  by_cases y : σ 3 i = 0
  · show (decide (σ 3 i ≠ 0)).toNat = (decide (σ 3 i ≠ 0) && decide (tp_nc σ i = 0)).toNat + (decide (σ 3 i ≠ 0) && decide (tp_nc σ i = 1)).toNat + (decide (σ 3 i ≠ 0) && decide (tp_nc σ i = 2)).toNat
    rw [decide_eq_false (show ¬ σ 3 i ≠ 0 from fun z => z y)]; rfl
  · show (decide (σ 3 i ≠ 0)).toNat = (decide (σ 3 i ≠ 0) && decide (tp_nc σ i = 0)).toNat + (decide (σ 3 i ≠ 0) && decide (tp_nc σ i = 1)).toNat + (decide (σ 3 i ≠ 0) && decide (tp_nc σ i = 2)).toNat
    rw [decide_eq_true (show σ 3 i ≠ 0 from y)]
    rcases (show tp_nc σ i = 0 ∨ tp_nc σ i = 1 ∨ tp_nc σ i = 2 from by omega) with h | h | h <;> rw [h] <;> rfl
theorem tp_M_al {X : Nat → Prop} {σ τ : tp_St} (I : tp_Inv σ) (R : tp_Rel X σ τ) : fM_chunkCount τ = some (tp_nI (tp_al σ)) := by
  rw [fM_chunkCount, show fM_countWith τ 0 = _ from tp_M_cw I R (k := 0) (by omega), Option.bind_some, show fM_countWith τ 1 = _ from tp_M_cw I R (k := 1) (by omega), Option.bind_some, show fM_countWith τ 2 = _ from tp_M_cw I R (k := 2) (by omega), Option.bind_some, tp_al_cw, tp_nI_add, tp_nI_add]
def tp_lS (σ : tp_St) : Nat → Int32
  | 0 => 0
  | n + 1 => if σ 2 n = 0 then tp_lS σ n else tp_lS σ n + σ 1 n
theorem tp_C_col {σ : tp_St} : fC_copiesOnLeaving σ = some (tp_lS σ 12) := by
  refine tp_acc_loop0 (F := fun n (b : Int32) y => fC_copiesOnLeaving_L4 σ n b y) (N := 12) (acc := fun i => tp_lS σ i) ?_ ?_
  · show fC_copiesOnLeaving_L4 σ 1 _ (tp_nI 12) = _
    rw [fC_copiesOnLeaving_L4, if_pos (by decide)]
  · intro n i hi
    show fC_copiesOnLeaving_L4 σ (n + 1) (tp_lS σ i) (tp_nI i) = fC_copiesOnLeaving_L4 σ n (tp_lS σ (i + 1)) (tp_nI i + 1)
    rw [fC_copiesOnLeaving_L4, if_neg (tp_gd hi), if_neg (tp_bd hi), tp_td hi, tp_lS]
    by_cases y : σ 2 i = 0
    · rw [if_pos y, if_pos y]
    · rw [if_neg y, if_neg y]
theorem tp_C_dt {σ : tp_St} : fC_disksThere σ = some (tp_nI (tp_cntF (tp_th σ) 12)) :=
  tp_cnt_loop (F := fun n a x => fC_disksThere_L4 σ n a x) (N := 12) (p := tp_th σ) (by rw [fC_disksThere_L4, if_pos (by decide)]) (fun n i a hi => by
    show fC_disksThere_L4 σ (n + 1) a (tp_nI i) = fC_disksThere_L4 σ n _ (tp_nI i + 1)
    rw [fC_disksThere_L4, if_neg (tp_gd hi), tp_C_isThere hi, Option.bind_some, tp_if_bI]
    cases tp_th σ i <;> rfl)
theorem tp_Inv.lv {σ : tp_St} (I : tp_Inv σ) {d : Nat} (hd : d < 12) (h : σ 2 d ≠ 0) : 0 < σ 0 d ∧ σ 2 d = 1 ∧ 0 < tp_cn σ d := by
  rcases I.2.2.1 d hd with h1 | ⟨h1, h2⟩
  · exact absurd h1 h
  · obtain ⟨P, h3, h4, h5⟩ := I.1 d hd
    exact ⟨by rw [h4]; exact (tp_nI_pos (by omega)).mpr (by omega), h1, h2⟩
theorem tp_M_countL {σ τ : tp_St} (I : tp_Inv σ) (R : tp_Rel tp_noX σ τ) (x : Int32) : fM_count_L35 x 13 0 0 0 τ = fM_count_L35 x 1 (tp_nI (tp_cntF (tp_th σ) 12)) (tp_lS σ 12) (tp_nI 12) τ := by
  refine tp_acc_loop0 (F := fun n (b : Int32 × Int32) y => fM_count_L35 x n b.1 b.2 y τ) (N := 12) (acc := fun i => (tp_nI (tp_cntF (tp_th σ) i), tp_lS σ i)) rfl ?_
  intro n i hi
  show fM_count_L35 x (n + 1) (tp_nI (tp_cntF (tp_th σ) i)) (tp_lS σ i) (tp_nI i) τ = fM_count_L35 x n (tp_nI (tp_cntF (tp_th σ) i + (tp_th σ i).toNat)) (tp_lS σ (i + 1)) (tp_nI i + 1) τ
  rw [fM_count_L35, if_neg (tp_gd hi), if_neg (tp_bd hi), tp_td hi, R.pl hi, tp_lS, tp_th]
  by_cases z : 0 < σ 0 i
  · rw [if_neg (Int32.not_le.mpr z), if_neg (Int32.not_le.mpr z), (R.1 i hi).2 z, decide_eq_true z, tp_M_used I R hi, Option.bind_some, I.2.1 i hi, tp_nI_s]
    by_cases y : σ 2 i = 0
    · rw [if_pos y, if_pos y]; rfl
    · rw [if_neg y, if_neg y]; rfl
  · have y : σ 2 i = 0 := by
      by_cases w : σ 2 i = 0
      · exact w
      · exact absurd (I.lv hi w).1 z
    rw [if_pos (Int32.not_lt.mp z), if_pos (Int32.not_lt.mp z), decide_eq_false z, if_pos y]; rfl
end
section
def tp_pl (σ : tp_St) (d : Nat) : Nat := (σ 0 d).toNatClampNeg
theorem tp_Inv.pl {σ : tp_St} (I : tp_Inv σ) {d : Nat} (hd : d < 12) : σ 0 d = tp_nI (tp_pl σ d) ∧ tp_pl σ d ≤ 200 ∧ tp_cn σ d ≤ tp_pl σ d := by
  obtain ⟨P, h1, h2, h3⟩ := I.1 d hd
  have h4 : tp_pl σ d = P := by rw [tp_pl, h2, tp_nI_t (by omega)]
  rw [h4]; exact ⟨h2, h1, h3⟩
theorem tp_frN {σ : tp_St} (I : tp_Inv σ) {d : Nat} (hd : d < 12) : tp_fr σ d = tp_nI (tp_pl σ d - tp_cn σ d) := by
  obtain ⟨h1, h2, h3⟩ := I.pl hd
  rw [tp_fr, h1, I.2.1 d hd]
  exact (Int32.ofNat_sub _ _ h3).symm
theorem tp_fr_pos {σ : tp_St} (I : tp_Inv σ) {d : Nat} (hd : d < 12) : 0 < tp_fr σ d ↔ tp_cn σ d < tp_pl σ d := by
  obtain ⟨h1, h2, h3⟩ := I.pl hd
  rw [tp_frN I hd, tp_nI_pos (by omega)]
  omega
theorem tp_pl_pos {σ : tp_St} (I : tp_Inv σ) {d : Nat} (hd : d < 12) : 0 < σ 0 d ↔ 0 < tp_pl σ d := by
  obtain ⟨h1, h2, h3⟩ := I.pl hd
  rw [h1, tp_nI_pos (by omega)]
theorem tp_sy_iff {σ : tp_St} {d : Nat} : tp_sy σ d = true ↔ 0 < σ 0 d ∧ σ 2 d = 0 := by rw [tp_sy, Bool.and_eq_true, decide_eq_true_eq, decide_eq_true_eq]
theorem tp_oN_ex {σ : tp_St} (I : tp_Inv σ) {c d : Nat} (hc : c < 400) (hd : d < 12) (h : tp_oN σ c d = true) : σ 3 c = 1 := by
  rcases I.2.2.2 c hc with ⟨h0, h1, h2⟩ | ⟨h1, _⟩
  · rw [tp_oN, h1, h2, decide_eq_false (tp_nI_m' (i := d) (by omega))] at h; cases h
  · exact h1
def tp_Pt (σ σ' : tp_St) (c : Nat) (l g : Int32) (d : Nat) (x : Int32) : Prop :=
  (∀ k, σ' 4 k = if k = c then l else σ 4 k) ∧ (∀ k, σ' 5 k = if k = c then g else σ 5 k) ∧ (∀ k, σ' 1 k = if k = d then x else σ 1 k) ∧ σ' 0 = σ 0 ∧ σ' 2 = σ 2 ∧ σ' 3 = σ 3 ∧ σ' 6 = σ 6 ∧ σ' 7 = σ 7
theorem tp_Pt3 {σ : tp_St} {c d : Nat} {x y z : Int32} : tp_Pt σ (tp_up (tp_up (tp_up σ 4 c x) 5 c y) 1 d z) c x y d z := ⟨fun _ => rfl, fun _ => rfl, fun _ => rfl, rfl, rfl, rfl, rfl, rfl⟩
theorem tp_Pt2 {σ : tp_St} {c d : Nat} {x z : Int32} (h : σ 5 c = -1) : tp_Pt σ (tp_up (tp_up σ 4 c x) 1 d z) c x (-1) d z := ⟨fun _ => rfl, fun k => by
  show σ 5 k = if k = c then -1 else σ 5 k
  by_cases e : k = c
  · rw [if_pos e, e, h]
  · rw [if_neg e], fun _ => rfl, rfl, rfl, rfl, rfl, rfl⟩
theorem tp_Pt.oN {σ σ' : tp_St} {c d : Nat} {l g x : Int32} (h : tp_Pt σ σ' c l g d x) (c' e : Nat) : tp_oN σ' c' e = if c' = c then (decide (l = tp_nI e) || decide (g = tp_nI e)) else tp_oN σ c' e := by
  show (decide (σ' 4 c' = tp_nI e) || decide (σ' 5 c' = tp_nI e)) = _
  rw [h.1, h.2.1]
  by_cases z : c' = c
  · rw [if_pos z, if_pos z, if_pos z]
  · rw [if_neg z, if_neg z, if_neg z]; rfl
theorem tp_Pt.cn {σ σ' : tp_St} {c d : Nat} {l g x : Int32} (h : tp_Pt σ σ' c l g d x) (hc : c < 400) (e : Nat) : tp_cn σ' e + (tp_oN σ c e).toNat = tp_cn σ e + (decide (l = tp_nI e) || decide (g = tp_nI e)).toNat := by
  have := tp_sumF_upd (f := fun i => (tp_oN σ' i e).toNat) (g := fun i => (tp_oN σ i e).toNat) (n := 400) hc (fun i _ hne => by show (tp_oN σ' i e).toNat = (tp_oN σ i e).toNat; rw [h.oN i e, if_neg hne])
  have k := h.oN c e
  rw [if_pos rfl] at k
  rw [← k]; exact this
theorem tp_Pt.rel {σ σ' : tp_St} {c d : Nat} {l g x : Int32} (h : tp_Pt σ σ' c l g d x) {X : Nat → Prop} {τ : tp_St} (R : tp_Rel X σ τ) {m : Int32} (hm : m = tp_mK l g) : tp_Rel X σ' (tp_up τ 4 c m) := by
  obtain ⟨h1, h2, h3, h4, h5, h6, h7, h8⟩ := h
  refine ⟨fun e he => ?_, fun k hk => ?_, fun k hk => ?_, ?_⟩
  · rw [h4, h5]; exact R.1 e he
  · refine ⟨by rw [h6]; exact R.th hk, ?_⟩
    show (if k = c then m else τ 4 k) = _
    rw [h1, h2]
    by_cases e : k = c
    · rw [if_pos e, if_pos e, if_pos e, hm]
    · rw [if_neg e, if_neg e, if_neg e]; exact R.cp hk
  · rw [h7]; exact R.2.2.1 k hk
  · rw [h8]; exact R.2.2.2
theorem tp_Rel.mono {X Y : Nat → Prop} {σ τ : tp_St} (R : tp_Rel X σ τ) (h : ∀ d, d < 12 → X d → Y d) : tp_Rel Y σ τ :=
  ⟨fun d hd => ⟨(R.1 d hd).1.imp id (fun z => ⟨h d hd z.1, z.2⟩), (R.1 d hd).2⟩, R.2⟩
theorem tp_VV.other {l g : Int32} (h : tp_VV l g) : tp_VV g (-1) := by
  rcases h with ⟨_, h⟩ | ⟨a, ha, _, h⟩ | ⟨a, b, h1, h2, _, h⟩
  · exact .inl ⟨h, rfl⟩
  · exact .inl ⟨h, rfl⟩
  · exact .inr (.inl ⟨b, h2, h, rfl⟩)
theorem tp_VV.left {l g : Int32} (h : tp_VV l g) : tp_VV l (-1) := by
  rcases h with ⟨h, _⟩ | ⟨a, ha, h, _⟩ | ⟨a, b, h1, h2, h, _⟩
  · exact .inl ⟨h, rfl⟩
  · exact .inr (.inl ⟨a, ha, h, rfl⟩)
  · exact .inr (.inl ⟨a, by omega, h, rfl⟩)
theorem tp_nc_g {σ : tp_St} {c : Nat} (h : tp_VV (σ 4 c) (σ 5 c)) (hn : tp_nc σ c < 2) : σ 5 c = -1 := by
  rw [tp_nc] at hn
  rcases h with ⟨_, h⟩ | ⟨a, ha, _, h⟩ | ⟨a, b, h1, h2, h3, h4⟩
  · exact h
  · exact h
  · rw [h3, h4, if_neg (tp_nI_m (by omega)), if_neg (tp_nI_m (by omega))] at hn; omega
theorem tp_add_pick {σ : tp_St} {c d : Nat} (hV : tp_VV (σ 4 c) (σ 5 c)) (hc : c < 400) (hd : d < 12) (h5 : σ 5 c = -1) (ho : tp_oN σ c d = false) :
    ∃ σ' l g, fC_addCopy σ (tp_nI c) (tp_nI d) = some σ' ∧ tp_Pt σ σ' c l g d (σ 1 d + 1) ∧ tp_VV l g ∧ tp_mK l g = tp_mK (σ 4 c) (σ 5 c) + tp_bt (tp_nI d) ∧ ∀ e, e < 12 → (decide (l = tp_nI e) || decide (g = tp_nI e)) = (tp_oN σ c e || decide (e = d)) := by
  rw [fC_addCopy, if_neg (tp_b4 hc), tp_t4 hc, if_neg (tp_bd hd), if_neg (tp_bd hd), tp_td hd]
  have hne : ∀ e, e < 12 → decide ((-1 : Int32) = tp_nI e) = false := fun e he => decide_eq_false (tp_nI_m' (by omega))
  have hdd : ∀ e, e < 12 → decide (tp_nI d = tp_nI e) = decide (e = d) := fun e he => decide_eq_decide.mpr ⟨fun z => ((tp_nI_eq (by omega) (by omega)).mp z).symm, fun z => by rw [z]⟩
  rcases hV with ⟨h, _⟩ | ⟨a, ha, h, _⟩ | ⟨a, b, h1, h2, _, h⟩
  · rw [if_pos h]
    refine ⟨_, tp_nI d, -1, rfl, tp_Pt2 h5, .inr (.inl ⟨d, hd, rfl, rfl⟩), ?_, fun e he => ?_⟩
    · rw [h, h5, tp_mK, tp_mK, tp_bt_m, Int32.add_zero, Int32.zero_add]; exact (Int32.zero_add _).symm
    · rw [tp_oN, h, h5, hne e he, hdd e he, Bool.or_false, Bool.or_false, Bool.false_or]
  · have had : a ≠ d := fun z => by
      rw [tp_oN, h, z, decide_eq_true rfl] at ho; cases ho
    have hae : ∀ e, e < 12 → decide (tp_nI a = tp_nI e) = decide (e = a) := fun e he => decide_eq_decide.mpr ⟨fun z => ((tp_nI_eq (by omega) (by omega)).mp z).symm, fun z => by rw [z]⟩
    rw [if_neg (by rw [h]; exact tp_nI_m (by omega)), h]
    rcases Nat.lt_or_gt_of_ne had with z | z
    · rw [if_neg (fun w => absurd ((tp_nI_lt (by omega) (by omega)).mp w) (by omega)), if_pos ((tp_nI_lt (by omega) (by omega)).mpr z)]
      refine ⟨_, tp_nI a, tp_nI d, rfl, tp_Pt3, .inr (.inr ⟨a, d, z, hd, rfl, rfl⟩), ?_, fun e he => ?_⟩
      · rw [h5, tp_mK, tp_mK, tp_bt_m, Int32.add_zero]
      · rw [tp_oN, h, h5, hne e he, Bool.or_false, hdd e he]
    · rw [if_pos ((tp_nI_lt (by omega) (by omega)).mpr z), if_neg (fun w => absurd ((tp_nI_lt (by omega) (by omega)).mp w) (by omega))]
      refine ⟨_, tp_nI d, tp_nI a, rfl, tp_Pt3, .inr (.inr ⟨d, a, z, ha, rfl, rfl⟩), ?_, fun e he => ?_⟩
      · rw [h5, tp_mK, tp_mK, tp_bt_m, Int32.add_zero]; exact Int32.add_comm _ _
      · rw [tp_oN, h, h5, hne e he, Bool.or_false, hdd e he, Bool.or_comm]
  · rw [h] at h5; exact absurd h5 (tp_nI_m (by omega))
theorem tp_add_spec {σ : tp_St} {c d : Nat} (I : tp_Inv σ) (hc : c < 400) (hd : d < 12) (h3 : σ 3 c = 1) (hn : tp_nc σ c < 2) (ho : tp_oN σ c d = false) (hf : tp_cn σ d < tp_pl σ d) :
    ∃ σ', fC_addCopy σ (tp_nI c) (tp_nI d) = some σ' ∧ tp_Inv σ' ∧ (∀ c' e, e < 12 → tp_oN σ' c' e = (tp_oN σ c' e || (decide (c' = c) && decide (e = d)))) ∧
      (σ' 0 = σ 0 ∧ σ' 2 = σ 2 ∧ σ' 3 = σ 3 ∧ σ' 6 = σ 6 ∧ σ' 7 = σ 7) ∧ (∀ e, e < 12 → tp_cn σ' e = tp_cn σ e + (decide (e = d)).toNat) ∧ ∀ X τ, tp_Rel X σ τ → tp_Rel X σ' (tp_up τ 4 c (τ 4 c + tp_bt (tp_nI d))) := by
  obtain ⟨σ', l, g, e1, hP, hV, hm, hO⟩ := tp_add_pick (I.vv hc) hc hd (tp_nc_g (I.vv hc) hn) ho
  have hcn : ∀ e, e < 12 → tp_cn σ' e = tp_cn σ e + (decide (e = d)).toNat := by
    intro e he
    have k := hP.cn hc e
    rw [hO e he] at k
    by_cases z : e = d
    · rw [z, ho, decide_eq_true rfl] at k
      rw [z, decide_eq_true rfl]
      have t1 : (true).toNat = 1 := rfl
      have t2 : (false).toNat = 0 := rfl
      have t3 : (false || true).toNat = 1 := rfl
      omega
    · rw [decide_eq_false z, Bool.or_false] at k
      rw [decide_eq_false z]
      have t2 : (false).toNat = 0 := rfl
      omega
  have hP' := hP
  obtain ⟨p4, p5, p1, p0, p2, p3, p6, p7⟩ := hP'
  refine ⟨σ', e1, ⟨fun e he => ?_, fun e he => ?_, fun e he => ?_, fun k hk => ?_⟩, fun c' e he => ?_, ⟨p0, p2, p3, p6, p7⟩, hcn, fun X τ R => ?_⟩
  · obtain ⟨h1, h2, h4⟩ := I.pl he
    refine ⟨tp_pl σ e, h2, by rw [p0]; exact h1, ?_⟩
    rw [hcn e he]
    by_cases z : e = d
    · rw [z, decide_eq_true rfl]; exact hf
    · rw [decide_eq_false z, show (false).toNat = 0 from rfl, Nat.add_zero]; exact h4
  · rw [p1, hcn e he]
    by_cases z : e = d
    · rw [if_pos z, z, decide_eq_true rfl, I.2.1 d hd]; exact tp_nI_s _
    · rw [if_neg z, decide_eq_false z, show (false).toNat = 0 from rfl, Nat.add_zero]; exact I.2.1 e he
  · rw [p2]
    exact (I.2.2.1 e he).imp id (fun z => ⟨z.1, by rw [hcn e he]; omega⟩)
  · rw [p3, p4, p5]
    by_cases z : k = c
    · rw [if_pos z, if_pos z, z]; exact .inr ⟨h3, hV⟩
    · rw [if_neg z, if_neg z]; exact I.2.2.2 k hk
  · rw [hP.oN c' e]
    by_cases z : c' = c
    · rw [if_pos z, hO e he, z, decide_eq_true rfl, Bool.true_and]
    · rw [if_neg z, decide_eq_false z, Bool.false_and, Bool.or_false]
  · exact hP.rel R (by rw [R.cp hc, hm])
theorem tp_vn0 : vp_nar .boolean 0 = 0 := by decide +kernel
theorem tp_vn1 : vp_nar .boolean 1 = 1 := by decide +kernel
def tp_gone (σ : tp_St) (d : Nat) : tp_St := tp_up (tp_up σ 0 d 0) 2 d 0
theorem tp_C_takeAway {σ : tp_St} {d : Nat} (hd : d < 12) : fC_takeAway σ (tp_nI d) = some (tp_gone σ d) := by rw [fC_takeAway, if_neg (tp_bd hd), tp_td hd, tp_vn0]; rfl
theorem tp_C_hasLeft {σ : tp_St} {d : Nat} (hd : d < 12) : fC_hasLeft σ (tp_nI d) = some (tp_bI (decide (σ 2 d ≠ 0) && decide (σ 1 d = 0))) := by
  rw [fC_hasLeft, if_neg (tp_bd hd), tp_td hd]
  by_cases y : σ 2 d = 0
  · rw [if_pos y, decide_eq_false (fun z => z y)]; rfl
  · rw [if_neg y, decide_eq_true y]
    by_cases z : σ 1 d = 0
    · rw [if_pos z, decide_eq_true z]; rfl
    · rw [if_neg z, decide_eq_false z]; rfl
theorem tp_ot_V {σ : tp_St} {c d : Nat} (h : tp_VV (σ 4 c) (σ 5 c)) (hd : d < 12) (ho : tp_oN σ c d = true) :
    tp_VV (tp_ot σ c d) (-1) ∧ tp_mK (tp_ot σ c d) (-1) = tp_mK (σ 4 c) (σ 5 c) - tp_bt (tp_nI d) ∧ ∀ e, e < 12 → (decide (tp_ot σ c d = tp_nI e) || decide ((-1 : Int32) = tp_nI e)) = (tp_oN σ c e && !decide (e = d)) := by
  have hne : ∀ e, e < 12 → decide ((-1 : Int32) = tp_nI e) = false := fun e he => decide_eq_false (tp_nI_m' (by omega))
  have hee : ∀ a e, a < 12 → e < 12 → decide (tp_nI a = tp_nI e) = decide (e = a) := fun a e ha he => decide_eq_decide.mpr ⟨fun z => ((tp_nI_eq (by omega) (by omega)).mp z).symm, fun z => by rw [z]⟩
  have hq : ∀ x : Int32, tp_mK x (-1) = tp_bt x := fun x => by rw [tp_mK, tp_bt_m, Int32.add_zero]
  by_cases z : σ 4 c = tp_nI d
  · have e1 : tp_ot σ c d = σ 5 c := if_pos z
    rw [e1]
    refine ⟨h.other, ?_, fun e he => ?_⟩
    · rw [hq, z, tp_mK, Int32.add_comm, Int32.add_sub_cancel]
    · rw [hne e he, Bool.or_false, tp_oN, z, hee d e hd he]
      by_cases w : e = d
      · rw [w, decide_eq_true rfl]
        rcases h with ⟨h1, h2⟩ | ⟨a, ha, h1, h2⟩ | ⟨a, b, h1, h2, h3, h4⟩
        · rw [h2, hne d hd]; rfl
        · rw [h2, hne d hd]; rfl
        · have : a = d := (tp_nI_eq (by omega) (by omega)).mp (h3.symm.trans z)
          rw [h4, decide_eq_false (fun w => absurd ((tp_nI_eq (by omega) (by omega)).mp w) (by omega))]; rfl
      · rw [decide_eq_false w, Bool.false_or]; exact (Bool.and_true _).symm
  · have e1 : tp_ot σ c d = σ 4 c := if_neg z
    have z5 : σ 5 c = tp_nI d := by
      rw [tp_oN, decide_eq_false z, Bool.false_or, decide_eq_true_eq] at ho; exact ho
    rw [e1]
    refine ⟨h.left, ?_, fun e he => ?_⟩
    · rw [hq, z5, tp_mK, Int32.add_sub_cancel]
    · rw [hne e he, Bool.or_false, tp_oN, z5, hee d e hd he]
      by_cases w : e = d
      · rw [w, decide_eq_true rfl, decide_eq_false z]; rfl
      · rw [decide_eq_false w, Bool.or_false]; exact (Bool.and_true _).symm
theorem tp_Rel.gone {X : Nat → Prop} {σ τ : tp_St} {d : Nat} (R : tp_Rel X σ τ) (hd : d < 12) (hX : X d) (h0 : 0 < σ 0 d) (h2 : σ 2 d ≠ 0) : tp_Rel X (tp_gone σ d) τ := by
  refine ⟨fun e he => ?_, R.2⟩
  show (τ 1 e = (if e = d then 0 else σ 0 e) ∨ (X e ∧ (if e = d then 0 else σ 0 e) = 0 ∧ 0 < τ 1 e ∧ τ 2 e ≠ 0)) ∧ (0 < (if e = d then 0 else σ 0 e) → τ 2 e = (if e = d then 0 else σ 2 e))
  by_cases z : e = d
  · have hR := R.1 d hd
    rw [z]
    simp only [if_true]
    refine ⟨?_, fun w => absurd w (by decide)⟩
    rcases hR.1 with w | w
    · exact .inr ⟨hX, trivial, by rw [w]; exact h0, by rw [hR.2 h0]; exact h2⟩
    · exact absurd h0 (by rw [w.2.1]; decide)
  · simp only [if_neg z]; exact R.1 e he
theorem tp_drop_spec {σ : tp_St} {c d : Nat} (I : tp_Inv σ) (hc : c < 400) (hd : d < 12) (ho : tp_oN σ c d = true) :
    ∃ σ', fC_dropCopy σ (tp_nI c) (tp_nI d) = some σ' ∧ tp_Inv σ' ∧ (∀ c' e, e < 12 → tp_oN σ' c' e = (tp_oN σ c' e && !(decide (c' = c) && decide (e = d)))) ∧
      (σ' 3 = σ 3 ∧ σ' 6 = σ 6 ∧ σ' 7 = σ 7 ∧ σ' 4 c = tp_ot σ c d) ∧ (∀ e, e ≠ d → σ' 0 e = σ 0 e ∧ σ' 2 e = σ 2 e) ∧
      ((σ' 0 d = σ 0 d ∧ σ' 2 d = σ 2 d) ∨ (σ 2 d = 1 ∧ σ' 0 d = 0 ∧ σ' 2 d = 0)) ∧ (∀ e, e < 12 → tp_cn σ' e + (decide (e = d)).toNat = tp_cn σ e) ∧
      ∀ X τ, tp_Rel X σ τ → (σ 2 d ≠ 0 → X d) → tp_Rel X σ' (tp_up τ 4 c (τ 4 c - tp_bt (tp_nI d))) := by
  obtain ⟨hV, hm, hO⟩ := tp_ot_V (I.vv hc) hd ho
  have hP : tp_Pt σ (tp_up (tp_up (tp_up σ 4 c (tp_ot σ c d)) 5 c (-1)) 1 d (σ 1 d - 1)) c (tp_ot σ c d) (-1) d (σ 1 d - 1) := tp_Pt3
  have hcn : ∀ e, e < 12 → tp_cn (tp_up (tp_up (tp_up σ 4 c (tp_ot σ c d)) 5 c (-1)) 1 d (σ 1 d - 1)) e + (decide (e = d)).toNat = tp_cn σ e := by
    intro e he
    have k := hP.cn hc e
    rw [hO e he] at k
    by_cases z : e = d
    · rw [z, ho, decide_eq_true rfl] at k
      rw [z, decide_eq_true rfl]
      have t1 : (true).toNat = 1 := rfl
      have t3 : (true && !true).toNat = 0 := rfl
      omega
    · rw [decide_eq_false z] at k
      rw [decide_eq_false z]
      have t2 : (false).toNat = 0 := rfl
      have t3 : (tp_oN σ c e && !false) = tp_oN σ c e := Bool.and_true _
      rw [t3] at k
      omega
  have hd0 : 0 < tp_cn σ d := tp_cntF_pos (p := fun c => tp_oN σ c d) hc ho
  have hcd := hcn d hd
  rw [decide_eq_true rfl] at hcd
  have t1 : (true).toNat = 1 := rfl
  have h1d : σ 1 d - 1 = tp_nI (tp_cn σ d - 1) := by rw [I.2.1 d hd]; exact (Int32.ofNat_sub (tp_cn σ d) 1 hd0).symm
  have h3 : σ 3 c = 1 := tp_oN_ex I hc hd ho
  have hrun : fC_dropCopy σ (tp_nI c) (tp_nI d) = if (decide (σ 2 d ≠ 0) && decide (σ 1 d - 1 = 0)) then some (tp_gone (tp_up (tp_up (tp_up σ 4 c (tp_ot σ c d)) 5 c (-1)) 1 d (σ 1 d - 1)) d) else some (tp_up (tp_up (tp_up σ 4 c (tp_ot σ c d)) 5 c (-1)) 1 d (σ 1 d - 1)) := by
    rw [fC_dropCopy, tp_C_other hc, Option.bind_some, if_neg (tp_b4 hc), if_neg (tp_bd hd), tp_t4 hc, tp_td hd]
    show ((fC_hasLeft (tp_up (tp_up (tp_up σ 4 c (tp_ot σ c d)) 5 c (-1)) 1 d (σ 1 d - 1)) (tp_nI d)).bind fun q5 => if q5 = 0 then some (tp_up (tp_up (tp_up σ 4 c (tp_ot σ c d)) 5 c (-1)) 1 d (σ 1 d - 1)) else ((fC_takeAway (tp_up (tp_up (tp_up σ 4 c (tp_ot σ c d)) 5 c (-1)) 1 d (σ 1 d - 1)) (tp_nI d)).bind fun q8 => some q8)) = _
    rw [tp_C_hasLeft hd, Option.bind_some, tp_if_bI, tp_C_takeAway hd, Option.bind_some]
    show (if (decide (σ 2 d ≠ 0) && decide ((if d = d then σ 1 d - 1 else σ 1 d) = 0)) = true then _ else _) = _
    rw [if_pos rfl]
  have hon : ∀ c' e, e < 12 → tp_oN (tp_up (tp_up (tp_up σ 4 c (tp_ot σ c d)) 5 c (-1)) 1 d (σ 1 d - 1)) c' e = (tp_oN σ c' e && !(decide (c' = c) && decide (e = d))) := by
    intro c' e he
    rw [hP.oN c' e]
    by_cases z : c' = c
    · rw [if_pos z, hO e he, z, decide_eq_true rfl, Bool.true_and]
    · rw [if_neg z, decide_eq_false z, Bool.false_and, Bool.not_false, Bool.and_true]
  have hcm : ∀ e, e < 12 → e ≠ d → tp_cn (tp_up (tp_up (tp_up σ 4 c (tp_ot σ c d)) 5 c (-1)) 1 d (σ 1 d - 1)) e = tp_cn σ e := by
    intro e he z
    have k := hcn e he
    rw [decide_eq_false z] at k
    have t2 : (false).toNat = 0 := rfl
    omega
  have h1e : ∀ e, e < 12 → (if e = d then σ 1 d - 1 else σ 1 e) = tp_nI (tp_cn (tp_up (tp_up (tp_up σ 4 c (tp_ot σ c d)) 5 c (-1)) 1 d (σ 1 d - 1)) e) := by
    intro e he
    by_cases z : e = d
    · rw [if_pos z, z, show tp_cn (tp_up (tp_up (tp_up σ 4 c (tp_ot σ c d)) 5 c (-1)) 1 d (σ 1 d - 1)) d = tp_cn σ d - 1 from by omega]; exact h1d
    · rw [if_neg z, hcm e he z]; exact I.2.1 e he
  have h4k : ∀ k, k < 400 → (σ 3 k = 0 ∧ (if k = c then tp_ot σ c d else σ 4 k) = -1 ∧ (if k = c then (-1) else σ 5 k) = -1) ∨ (σ 3 k = 1 ∧ tp_VV (if k = c then tp_ot σ c d else σ 4 k) (if k = c then (-1) else σ 5 k)) := by
    intro k hk
    by_cases z : k = c
    · rw [if_pos z, if_pos z, z]; exact .inr ⟨h3, hV⟩
    · rw [if_neg z, if_neg z]; exact I.2.2.2 k hk
  have hrel : ∀ X τ, tp_Rel X σ τ → tp_Rel X (tp_up (tp_up (tp_up σ 4 c (tp_ot σ c d)) 5 c (-1)) 1 d (σ 1 d - 1)) (tp_up τ 4 c (τ 4 c - tp_bt (tp_nI d))) := fun X τ R => hP.rel R (by rw [R.cp hc, hm])
  rw [hrun]
  by_cases hl : (decide (σ 2 d ≠ 0) && decide (σ 1 d - 1 = 0)) = true
  · -- the disk is tp_gone
    rw [if_pos hl]
    rw [Bool.and_eq_true, decide_eq_true_eq, decide_eq_true_eq] at hl
    obtain ⟨l1, l2, l3⟩ := I.lv hd hl.1
    have l4 : tp_cn σ d = 1 := by
      have := hl.2
      rw [h1d, tp_nI_0 (by have := tp_cn_le σ d; omega)] at this
      omega
    refine ⟨_, rfl, ⟨fun e he => ?_, fun e he => h1e e he, fun e he => ?_, fun k hk => h4k k hk⟩, fun c' e he => hon c' e he, ⟨rfl, rfl, rfl, if_pos rfl⟩, fun e he => ⟨if_neg he, if_neg he⟩, .inr ⟨l2, if_pos rfl, if_pos rfl⟩, hcn, fun X τ R hX => (hrel X τ R).gone hd (hX hl.1) l1 hl.1⟩
    · show ∃ P, P ≤ 200 ∧ (if e = d then 0 else σ 0 e) = tp_nI P ∧ tp_cn (tp_up (tp_up (tp_up σ 4 c (tp_ot σ c d)) 5 c (-1)) 1 d (σ 1 d - 1)) e ≤ P
      by_cases z : e = d
      · exact ⟨0, by omega, by rw [if_pos z]; rfl, by rw [z]; omega⟩
      · obtain ⟨i1, i2, i3⟩ := I.pl he
        exact ⟨tp_pl σ e, i2, by rw [if_neg z]; exact i1, by rw [hcm e he z]; exact i3⟩
    · show (if e = d then 0 else σ 2 e) = 0 ∨ ((if e = d then 0 else σ 2 e) = 1 ∧ 0 < tp_cn (tp_up (tp_up (tp_up σ 4 c (tp_ot σ c d)) 5 c (-1)) 1 d (σ 1 d - 1)) e)
      by_cases z : e = d
      · exact .inl (if_pos z)
      · rw [if_neg z, hcm e he z]; exact I.2.2.1 e he
  · rw [if_neg hl]
    refine ⟨_, rfl, ⟨fun e he => ?_, fun e he => h1e e he, fun e he => ?_, fun k hk => h4k k hk⟩, fun c' e he => hon c' e he, ⟨rfl, rfl, rfl, if_pos rfl⟩, fun e he => ⟨rfl, rfl⟩, .inl ⟨rfl, rfl⟩, hcn, fun X τ R hX => hrel X τ R⟩
    · obtain ⟨i1, i2, i3⟩ := I.pl he
      refine ⟨tp_pl σ e, i2, i1, ?_⟩
      have := hcn e he
      omega
    · show σ 2 e = 0 ∨ (σ 2 e = 1 ∧ 0 < tp_cn (tp_up (tp_up (tp_up σ 4 c (tp_ot σ c d)) 5 c (-1)) 1 d (σ 1 d - 1)) e)
      by_cases z : e = d
      · by_cases w : σ 2 d = 0
        · rw [z]; exact .inl w
        · refine .inr ⟨by rw [z]; exact (I.lv hd w).2.1, ?_⟩
          have k : ¬ σ 1 d - 1 = 0 := fun v => hl (by rw [decide_eq_true w, decide_eq_true v]; rfl)
          rw [h1d, tp_nI_0 (by have := tp_cn_le σ d; omega)] at k
          rw [z]; omega
      · rw [hcm e he z]; exact I.2.2.1 e he
theorem tp_up_up {σ : tp_St} {f k : Nat} {x y : Int32} : tp_up (tp_up σ f k x) f k y = tp_up σ f k y := by
  funext g j
  show (if g = f then upd (if f = f then upd (σ f) k x else σ f) k y else (if g = f then upd (σ f) k x else σ g)) j = (if g = f then upd (σ f) k y else σ g) j
  by_cases h : g = f
  · rw [if_pos h, if_pos h, if_pos rfl]
    show (if j = k then y else if j = k then x else σ f j) = if j = k then y else σ f j
    by_cases e : j = k
    · rw [if_pos e, if_pos e]
    · rw [if_neg e, if_neg e, if_neg e]
  · rw [if_neg h, if_neg h, if_neg h]
def tp_mvO (σ : tp_St) (c a b c' e : Nat) : Bool := if c' = c then ((tp_oN σ c e && !decide (e = a)) || decide (e = b)) else tp_oN σ c' e
theorem tp_move_spec {σ : tp_St} {c a b : Nat} (I : tp_Inv σ) (hc : c < 400) (ha : a < 12) (hb : b < 12) (hoa : tp_oN σ c a = true) (hob : tp_oN σ c b = false) (hf : tp_cn σ b < tp_pl σ b) :
    ∃ σ', fC_moveCopy σ (tp_nI c) (tp_nI a) (tp_nI b) = some σ' ∧ tp_Inv σ' ∧ (∀ c' e, e < 12 → tp_oN σ' c' e = tp_mvO σ c a b c' e) ∧ (σ' 3 = σ 3 ∧ σ' 6 = σ 6 ∧ σ' 7 = σ 7) ∧ (∀ e, e ≠ a → σ' 0 e = σ 0 e ∧ σ' 2 e = σ 2 e) ∧
      ((σ' 0 a = σ 0 a ∧ σ' 2 a = σ 2 a) ∨ (σ 2 a = 1 ∧ σ' 0 a = 0 ∧ σ' 2 a = 0)) ∧ (∀ e, e < 12 → tp_cn σ' e + (decide (e = a)).toNat = tp_cn σ e + (decide (e = b)).toNat) ∧
      ∀ X τ, tp_Rel X σ τ → (σ 2 a ≠ 0 → X a) → tp_Rel X σ' (tp_up τ 4 c (τ 4 c - tp_bt (tp_nI a) + tp_bt (tp_nI b))) := by
  have hab : b ≠ a := fun z => by rw [z, hoa] at hob; cases hob
  obtain ⟨σ1, r1, I1, o1, ⟨s3, s6, s7, _⟩, se, sa, c1, R1⟩ := tp_drop_spec I hc ha hoa
  have h3 : σ1 3 c = 1 := by rw [s3]; exact tp_oN_ex I hc ha hoa
  have hcb := c1 b hb
  rw [decide_eq_false hab] at hcb
  have t2 : (false).toNat = 0 := rfl
  have t1 : (true).toNat = 1 := rfl
  have ob1 : tp_oN σ1 c b = false := by rw [o1 c b hb, hob]; rfl
  have hn1 : tp_nc σ1 c < 2 := by
    have k := tp_sumF_upd (f := fun e => (tp_oN σ1 c e).toNat) (g := fun e => (tp_oN σ c e).toNat) (c := a) (n := 12) ha (fun e he hne => by show (tp_oN σ1 c e).toNat = _; rw [o1 c e he, decide_eq_false hne, Bool.and_false]; exact congrArg Bool.toNat (Bool.and_true _))
    have k1 : tp_oN σ1 c a = false := by rw [o1 c a ha, hoa, decide_eq_true rfl, decide_eq_true rfl]; rfl
    have k2 : tp_cntF (fun e => tp_oN σ1 c e) 12 + (tp_oN σ c a).toNat = tp_cntF (fun e => tp_oN σ c e) 12 + (tp_oN σ1 c a).toNat := k
    rw [tp_nc_cnt (I1.vv hc), tp_nc_cnt (I.vv hc), hoa, k1] at k2
    have := tp_nc_lt σ c
    omega
  have pb : tp_pl σ1 b = tp_pl σ b := by rw [tp_pl, tp_pl, (se b hab).1]
  obtain ⟨σ2, r2, I2, o2, ⟨q0, q2, q3, q6, q7⟩, c2, R2⟩ := tp_add_spec I1 hc hb h3 hn1 ob1 (by rw [pb]; omega)
  refine ⟨σ2, by rw [fC_moveCopy, r1, Option.bind_some, r2, Option.bind_some], I2, fun c' e he => ?_, ⟨q3.trans s3, q6.trans s6, q7.trans s7⟩, fun e he => ⟨by rw [q0]; exact (se e he).1, by rw [q2]; exact (se e he).2⟩, by rw [q0, q2]; exact sa, fun e he => ?_, fun X τ R hX => ?_⟩
  · rw [o2 c' e he, o1 c' e he, tp_mvO]
    by_cases z : c' = c
    · rw [if_pos z, z, decide_eq_true rfl, Bool.true_and, Bool.true_and]
    · rw [if_neg z, decide_eq_false z, Bool.false_and, Bool.false_and, Bool.not_false, Bool.and_true, Bool.or_false]
  · have k1 := c1 e he
    have k2 := c2 e he
    omega
  · have k := R2 X _ (R1 X τ R hX)
    rw [tp_up_up] at k
    have e1 : tp_up τ 4 c (τ 4 c - tp_bt (tp_nI a)) 4 c = τ 4 c - tp_bt (tp_nI a) := tp_up_eq
    rw [e1] at k
    exact k
def tp_tY (σ τ : tp_St) : Nat → tp_St
  | 0 => τ
  | n + 1 => if 0 < tp_tY σ τ n 1 n ∧ tp_tY σ τ n 2 n ≠ 0 ∧ tp_cn σ n = 0 then tp_up (tp_tY σ τ n) 1 n 0 else tp_tY σ τ n
theorem tp_tY_rel {X : Nat → Prop} {σ τ : tp_St} (I : tp_Inv σ) (R : tp_Rel X σ τ) : ∀ i, i ≤ 12 → tp_Rel (fun d => i ≤ d ∧ X d) σ (tp_tY σ τ i) := by
  intro i
  induction i with
  | zero => intro _; exact R.mono (fun d _ h => ⟨Nat.zero_le d, h⟩)
  | succ i ih =>
    intro hi
    have k := ih (by omega)
    rw [tp_tY]
    by_cases z : 0 < tp_tY σ τ i 1 i ∧ tp_tY σ τ i 2 i ≠ 0 ∧ tp_cn σ i = 0
    · rw [if_pos z]
      refine ⟨fun d hd => ?_, k.2⟩
      show ((if d = i then 0 else tp_tY σ τ i 1 d) = σ 0 d ∨ ((i + 1 ≤ d ∧ X d) ∧ σ 0 d = 0 ∧ 0 < (if d = i then 0 else tp_tY σ τ i 1 d) ∧ tp_tY σ τ i 2 d ≠ 0)) ∧ (0 < σ 0 d → tp_tY σ τ i 2 d = σ 2 d)
      refine ⟨?_, (k.1 d hd).2⟩
      by_cases e : d = i
      · rw [if_pos e]
        left
        rcases (k.1 i (by omega)).1 with w | w
        · exfalso
          rw [w] at z
          have := (k.1 i (by omega)).2 z.1
          rw [this] at z
          have := (I.lv (by omega) z.2.1).2.2
          omega
        · rw [e, w.2.1]
      · rw [if_neg e]
        rcases (k.1 d hd).1 with w | w
        · exact .inl w
        · exact .inr ⟨⟨by omega, w.1.2⟩, w.2⟩
    · rw [if_neg z]
      refine ⟨fun d hd => ⟨?_, (k.1 d hd).2⟩, k.2⟩
      rcases (k.1 d hd).1 with w | w
      · exact .inl w
      · by_cases e : d = i
        · exfalso
          rw [e] at w
          have h0 : tp_cn σ i = 0 := by
            obtain ⟨P, h1, h2, h3⟩ := I.1 i (by omega)
            have h4 := w.2.1
            rw [h2, tp_nI_0 (by omega)] at h4
            omega
          exact z ⟨w.2.2.1, w.2.2.2, h0⟩
        · exact .inr ⟨⟨by omega, w.1.2⟩, w.2⟩
theorem tp_M_tidy {X : Nat → Prop} {σ τ : tp_St} (I : tp_Inv σ) (R : tp_Rel X σ τ) : ∃ τ', fM_tidy τ = some τ' ∧ tp_Rel tp_noX σ τ' ∧ τ' 0 = τ 0 := by
  refine ⟨tp_tY σ τ 12, ?_, (tp_tY_rel I R 12 (Nat.le_refl _)).mono (fun d hd h => absurd h.1 (by omega)), ?_⟩
  · refine tp_acc_loop0 (F := fun n (b : tp_St) y => fM_tidy_L2 n y b) (N := 12) (acc := fun i => tp_tY σ τ i) ?_ ?_
    · show fM_tidy_L2 1 (tp_nI 12) _ = _
      rw [fM_tidy_L2, if_pos (by decide)]
    · intro n i hi
      show fM_tidy_L2 (n + 1) (tp_nI i) (tp_tY σ τ i) = fM_tidy_L2 n (tp_nI i + 1) (tp_tY σ τ (i + 1))
      have k := tp_tY_rel I R i (by omega)
      have hc := tp_cn_le σ i
      rw [fM_tidy_L2, if_neg (tp_gd hi), if_neg (tp_bd hi), tp_td hi, tp_tY]
      by_cases z : 0 < tp_tY σ τ i 1 i
      · rw [if_neg (Int32.not_le.mpr z)]
        by_cases y : tp_tY σ τ i 2 i = 0
        · rw [if_pos y, if_neg (fun w => w.2.1 y)]
        · rw [if_neg y, tp_M_used I k hi, Option.bind_some]
          by_cases w : tp_cn σ i = 0
          · rw [if_pos ((tp_nI_0 (by omega)).mpr w), if_pos ⟨z, y, w⟩]
          · rw [if_neg (fun v => w ((tp_nI_0 (by omega)).mp v)), if_neg (fun v => w v.2.2)]
      · rw [if_pos (Int32.not_lt.mp z), if_neg (fun w => z w.1)]
  · have : ∀ i, tp_tY σ τ i 0 = τ 0 := by
      intro i
      induction i with
      | zero => rfl
      | succ i ih =>
        rw [tp_tY]
        by_cases z : 0 < tp_tY σ τ i 1 i ∧ tp_tY σ τ i 2 i ≠ 0 ∧ tp_cn σ i = 0
        · rw [if_pos z]; exact ih
        · rw [if_neg z]; exact ih
    exact this 12
end
section
def tp_rm (σ : tp_St) (D c : Nat) : Int32 := if tp_oN σ c D then -1 else if tp_syv σ (σ 4 c) then σ 4 c else if tp_syv σ (σ 5 c) then σ 5 c else -1
theorem tp_C_cfr {σ : tp_St} (I : tp_Inv σ) {c : Nat} (hc : c < 400) (D : Nat) : fC_copyForRoom σ (tp_nI c) (tp_nI D) = some (tp_rm σ D c) := by
  rw [fC_copyForRoom, tp_C_isOn' hc D, Option.bind_some, tp_if_bI, tp_rm]
  cases tp_oN σ c D with
  | true => rfl
  | false =>
    rw [if_neg (by decide), if_neg (tp_b4 hc), tp_t4 hc, tp_C_staysv (I.vv hc).l, Option.bind_some, tp_if_bI, tp_C_staysv (I.vv hc).g, Option.bind_some, tp_if_bI]
    cases tp_syv σ (σ 4 c) with
    | true => rfl
    | false => cases tp_syv σ (σ 5 c) <;> rfl
theorem tp_syv_d {σ : tp_St} {x : Int32} (hx : tp_DD x) (h : tp_syv σ x = true) : ∃ a, a < 12 ∧ x = tp_nI a ∧ tp_sy σ a = true := by
  rcases hx with hx | ⟨a, ha, hx⟩
  · rw [hx, tp_syv_m] at h; cases h
  · exact ⟨a, ha, hx, by rw [hx, tp_syv_n σ ha] at h; exact h⟩
theorem tp_rm_some {σ : tp_St} (I : tp_Inv σ) {D c : Nat} (hc : c < 400) (h : tp_rm σ D c ≠ -1) : ∃ a, a < 12 ∧ tp_rm σ D c = tp_nI a ∧ tp_oN σ c a = true ∧ tp_oN σ c D = false ∧ tp_sy σ a = true := by
  rw [tp_rm] at h
  rw [tp_rm]
  cases ho : tp_oN σ c D with
  | true => rw [ho, if_pos rfl] at h; exact absurd rfl h
  | false =>
    rw [ho, if_neg (by decide)] at h
    rw [if_neg (by decide)]
    cases h1 : tp_syv σ (σ 4 c) with
    | true =>
      obtain ⟨a, ha, e, hs⟩ := tp_syv_d (I.vv hc).l h1
      exact ⟨a, ha, by rw [if_pos rfl]; exact e, by rw [tp_oN, e, decide_eq_true rfl]; rfl, rfl, hs⟩
    | false =>
      rw [h1, if_neg (by decide)] at h
      cases h2 : tp_syv σ (σ 5 c) with
      | true =>
        obtain ⟨a, ha, e, hs⟩ := tp_syv_d (I.vv hc).g h2
        exact ⟨a, ha, by rw [if_neg (by decide), if_pos rfl]; exact e, by rw [tp_oN, e, decide_eq_true rfl, Bool.or_true], rfl, hs⟩
      | false => rw [h2, if_neg (by decide)] at h; exact absurd rfl h
def tp_fR (σ : tp_St) (D : Nat) : Option Nat := tp_findF (fun c => decide (tp_rm σ D c ≠ -1)) 400 0
theorem tp_C_mr {σ : tp_St} (I : tp_Inv σ) (D : Nat) : fC_makeRoomBeside σ (tp_nI D) = (tp_fR σ D).elim (some (-1, σ)) (fun c => (fC_moveCopy σ (tp_nI c) (tp_rm σ D c) (tp_nI D)).bind fun q => some (tp_rm σ D c, tp_up q 7 0 (q 7 0 + 1))) := by
  refine tp_find_loop0 (F := fun n x => fC_makeRoomBeside_L2 (tp_nI D) n x σ) (N := 400) ?_ ?_
  · show fC_makeRoomBeside_L2 (tp_nI D) 1 (tp_nI 400) σ = _
    rw [fC_makeRoomBeside_L2, if_pos (by decide)]
  · intro n i hi
    show fC_makeRoomBeside_L2 (tp_nI D) (n + 1) (tp_nI i) σ = _
    rw [fC_makeRoomBeside_L2, if_neg (tp_g4 hi), tp_C_cfr I hi, Option.bind_some]
    by_cases z : tp_rm σ D i = -1
    · rw [if_pos z, decide_eq_false (fun w => w z)]; rfl
    · rw [if_neg z, decide_eq_true z]; rfl
theorem tp_fd_lg {σ : tp_St} {c : Nat} (h : tp_VV (σ 4 c) (σ 5 c)) : tp_findF (fun e => tp_oN σ c e && tp_sy σ e) 12 0 = if tp_syv σ (σ 4 c) then some (σ 4 c).toNatClampNeg else if tp_syv σ (σ 5 c) then some (σ 5 c).toNatClampNeg else none := by
  have hne : ∀ e, e < 12 → decide ((-1 : Int32) = tp_nI e) = false := fun e he => decide_eq_false (tp_nI_m' (by omega))
  have hee : ∀ a e, a < 12 → e < 12 → decide (tp_nI a = tp_nI e) = decide (e = a) := fun a e ha he => decide_eq_decide.mpr ⟨fun z => ((tp_nI_eq (by omega) (by omega)).mp z).symm, fun z => by rw [z]⟩
  rcases h with ⟨h1, h2⟩ | ⟨a, ha, h1, h2⟩ | ⟨a, b, hab, hb, h1, h2⟩
  · rw [h1, h2, tp_syv_m, if_neg (by decide), if_neg (by decide)]
    exact tp_findF_no (fun m hm => by rw [tp_oN, h1, h2, hne m hm]; rfl)
  · rw [h1, h2, tp_syv_m, tp_syv_n σ ha, tp_td ha, if_neg (show ¬ false = true by decide)]
    cases hs : tp_sy σ a with
    | true =>
      rw [if_pos rfl]
      exact tp_findF_is ha (by rw [tp_oN, h1, decide_eq_true rfl, hs]; rfl) (fun m hm => by rw [tp_oN, h1, h2, hne m (by omega), hee a m ha (by omega), decide_eq_false (by omega)]; rfl)
    | false =>
      rw [if_neg (by decide)]
      exact tp_findF_no (fun m hm => by
        rw [tp_oN, h1, h2, hne m hm, hee a m ha hm]
        by_cases z : m = a
        · rw [z, hs, Bool.and_false]
        · rw [decide_eq_false z]; rfl)
  · have ha : a < 12 := by omega
    rw [h1, h2, tp_syv_n σ ha, tp_syv_n σ hb, tp_td ha, tp_td hb]
    have hp : ∀ m, m < 12 → (tp_oN σ c m && tp_sy σ m) = ((decide (m = a) || decide (m = b)) && tp_sy σ m) := fun m hm => by rw [tp_oN, h1, h2, hee a m ha hm, hee b m hb hm]
    cases hs : tp_sy σ a with
    | true =>
      rw [if_pos rfl]
      exact tp_findF_is ha (by rw [hp a ha, decide_eq_true rfl, hs]; rfl) (fun m hm => by rw [hp m (by omega), decide_eq_false (by omega), decide_eq_false (by omega)]; rfl)
    | false =>
      rw [if_neg (by decide)]
      have hz : ∀ m, m < 12 → m ≠ b → (tp_oN σ c m && tp_sy σ m) = false := fun m hm hmb => by
        rw [hp m hm, decide_eq_false hmb]
        by_cases z : m = a
        · rw [z, hs, Bool.and_false]
        · rw [decide_eq_false z]; rfl
      cases ht : tp_sy σ b with
      | true =>
        rw [if_pos rfl]
        exact tp_findF_is hb (by rw [hp b hb, decide_eq_true (rfl : b = b), ht, Bool.or_true]; rfl) (fun m hm => hz m (by omega) (by omega))
      | false =>
        rw [if_neg (by decide)]
        exact tp_findF_no (fun m hm => by
          by_cases z : m = b
          · rw [z, ht, Bool.and_false]
          · exact hz m hm z)
def tp_mT (τ : tp_St) (c : Nat) (x y : Int32) : tp_St := tp_up (tp_up τ 4 c (τ 4 c - 1 <<< (x &&& 31) + 1 <<< (y &&& 31))) 6 0 (τ 6 0 + 1)
theorem tp_M_mr {σ τ : tp_St} (I : tp_Inv σ) (R : tp_Rel tp_noX σ τ) {D : Nat} (hD : D < 12) : fM_makeRoom τ (tp_nI D) = (tp_fR σ D).elim (some (-1, τ)) (fun c => some (tp_rm σ D c, tp_mT τ c (tp_rm σ D c) (tp_nI D))) := by
  refine tp_find_loop0 (F := fun n x => fM_makeRoom_L2 (tp_nI D) n x τ) (N := 400) ?_ ?_
  · show fM_makeRoom_L2 (tp_nI D) 1 (tp_nI 400) τ = _
    rw [fM_makeRoom_L2, if_pos (by decide)]
  · intro n i hi
    show fM_makeRoom_L2 (tp_nI D) (n + 1) (tp_nI i) τ = if decide (tp_rm σ D i ≠ -1) then some (tp_rm σ D i, tp_mT τ i (tp_rm σ D i) (tp_nI D)) else fM_makeRoom_L2 (tp_nI D) n (tp_nI i + 1) τ
    rw [fM_makeRoom_L2, if_neg (tp_g4 hi), if_neg (tp_b4 hi), tp_t4 hi, R.th hi]
    by_cases y : σ 3 i = 0
    · have h4 : σ 4 i = -1 ∧ σ 5 i = -1 := by
        rcases I.2.2.2 i hi with z | z
        · exact z.2
        · rw [z.1] at y; exact absurd y (by decide)
      have hr : tp_rm σ D i = -1 := by rw [tp_rm, h4.1, h4.2, tp_syv_m, if_neg (show ¬ false = true by decide), if_neg (show ¬ false = true by decide)]; exact ite_self _
      rw [if_pos y, hr, decide_eq_false (fun w => w rfl)]; rfl
    · rw [if_neg y, tp_M_isOn I R hi hD, Option.bind_some, tp_if_bI]
      cases ho : tp_oN σ i D with
      | true =>
        have hr : tp_rm σ D i = -1 := by rw [tp_rm, ho, if_pos rfl]
        rw [if_pos rfl, hr, decide_eq_false (fun w => w rfl)]; rfl
      | false =>
        rw [if_neg (by decide)]
        have inner : fM_makeRoom_L29 (fun (σ29k : tp_St) => fM_makeRoom_L2 (tp_nI D) n (tp_nI i + 1) σ29k) (tp_nI D) (tp_nI i) 13 0 τ = (tp_findF (fun e => tp_oN σ i e && tp_sy σ e) 12 0).elim (fM_makeRoom_L2 (tp_nI D) n (tp_nI i + 1) τ) (fun e => some (tp_nI e, tp_mT τ i (tp_nI e) (tp_nI D))) := by
          refine tp_find_loop0 (F := fun n' x => fM_makeRoom_L29 (fun (σ29k : tp_St) => fM_makeRoom_L2 (tp_nI D) n (tp_nI i + 1) σ29k) (tp_nI D) (tp_nI i) n' x τ) (N := 12) ?_ ?_
          · show fM_makeRoom_L29 _ (tp_nI D) (tp_nI i) 1 (tp_nI 12) τ = _
            rw [fM_makeRoom_L29, if_pos (by decide)]
          · intro n' e he
            show fM_makeRoom_L29 _ (tp_nI D) (tp_nI i) (n' + 1) (tp_nI e) τ = _
            rw [fM_makeRoom_L29, if_neg (tp_gd he), tp_M_isOn I R hi he, Option.bind_some, tp_if_bI, tp_M_stays R he, Option.bind_some, tp_if_bI, if_neg (tp_b4 hi), tp_t4 hi]
            cases tp_oN σ i e with
            | false => rfl
            | true => cases tp_sy σ e <;> rfl
        rw [inner, tp_fd_lg (I.vv hi), tp_rm, ho, if_neg (show ¬ false = true by decide)]
        cases h1 : tp_syv σ (σ 4 i) with
        | true =>
          obtain ⟨a, ha, e, hs⟩ := tp_syv_d (I.vv hi).l h1
          rw [if_pos rfl, if_pos rfl, e, tp_td ha, decide_eq_true (tp_nI_m (by omega))]; rfl
        | false =>
          rw [if_neg (show ¬ false = true by decide), if_neg (show ¬ false = true by decide)]
          cases h2 : tp_syv σ (σ 5 i) with
          | true =>
            obtain ⟨a, ha, e, hs⟩ := tp_syv_d (I.vv hi).g h2
            rw [if_pos rfl, if_pos rfl, e, tp_td ha, decide_eq_true (tp_nI_m (by omega))]; rfl
          | false => rw [if_neg (show ¬ false = true by decide), if_neg (show ¬ false = true by decide)]; rfl
theorem tp_room_sim {σ τ : tp_St} (I : tp_Inv σ) (R : tp_Rel tp_noX σ τ) {D : Nat} (hD : D < 12) (hf : tp_cn σ D < tp_pl σ D) :
    (tp_fR σ D = none ∧ fC_makeRoomBeside σ (tp_nI D) = some (-1, σ) ∧ fM_makeRoom τ (tp_nI D) = some (-1, τ)) ∨
    ∃ c a σ' τ', c < 400 ∧ a < 12 ∧ tp_fR σ D = some c ∧ tp_oN σ c a = true ∧ tp_oN σ c D = false ∧ tp_sy σ a = true ∧ fC_makeRoomBeside σ (tp_nI D) = some (tp_nI a, σ') ∧ fM_makeRoom τ (tp_nI D) = some (tp_nI a, τ') ∧ tp_Inv σ' ∧ tp_Rel tp_noX σ' τ' ∧ τ' 0 = τ 0 ∧
      (∀ c' e, e < 12 → tp_oN σ' c' e = tp_mvO σ c a D c' e) ∧ (σ' 0 = σ 0 ∧ σ' 2 = σ 2 ∧ σ' 3 = σ 3 ∧ σ' 6 = σ 6) ∧ (∀ e, e < 12 → tp_cn σ' e + (decide (e = a)).toNat = tp_cn σ e + (decide (e = D)).toNat) := by
  rw [tp_C_mr I D, tp_M_mr I R hD]
  cases hr : tp_fR σ D with
  | none => exact .inl ⟨rfl, rfl, rfl⟩
  | some c =>
    obtain ⟨_, k1, k2, k3⟩ := tp_findF_some hr
    have hc : c < 400 := by omega
    obtain ⟨a, ha, e, oa, oD, hs⟩ := tp_rm_some I hc (of_decide_eq_true k2)
    have h2 : σ 2 a = 0 := (tp_sy_iff.mp hs).2
    obtain ⟨σ1, r1, I1, o1, ⟨s3, s6, s7⟩, se, sa, c1, R1⟩ := tp_move_spec I hc ha hD oa oD hf
    have e0 : ∀ x, σ1 0 x = σ 0 x ∧ σ1 2 x = σ 2 x := fun x => by
      by_cases z : x = a
      · rw [z]
        rcases sa with w | w
        · exact w
        · rw [h2] at w; exact absurd w.1 (by decide)
      · exact se x z
    refine .inr ⟨c, a, tp_up σ1 7 0 (σ1 7 0 + 1), tp_mT τ c (tp_nI a) (tp_nI D), hc, ha, rfl, oa, oD, hs, ?_, ?_, I1, ?_, rfl, o1, ⟨funext fun x => (e0 x).1, funext fun x => (e0 x).2, s3, s6⟩, c1⟩
    · show (fC_moveCopy σ (tp_nI c) (tp_rm σ D c) (tp_nI D)).bind (fun q => some (tp_rm σ D c, tp_up q 7 0 (q 7 0 + 1))) = _
      rw [e, r1]; rfl
    · show some (tp_rm σ D c, tp_mT τ c (tp_rm σ D c) (tp_nI D)) = _
      rw [e]
    · have k := R1 tp_noX τ R (fun w => absurd h2 w)
      rw [tp_mT, tp_bt_n ha, tp_bt_n hD]
      refine ⟨k.1, k.2.1, k.2.2.1, ?_⟩
      show τ 6 0 + 1 = σ1 7 0 + 1
      rw [show τ 6 0 = σ1 7 0 from k.2.2.2]
def tp_z4 (σ : tp_St) (f c : Nat) : tp_St := tp_up (tp_up (tp_up (tp_up σ f (4 * c) 0) f (4 * c + 1) 0) f (4 * c + 2) 0) f (4 * c + 3) 0
theorem tp_ix_C (c i : Nat) : tp_nI c * 4 + tp_nI i = tp_nI (4 * c + i) := by
  show Int32.ofNat c * Int32.ofNat 4 + Int32.ofNat i = Int32.ofNat (4 * c + i)
  rw [← tp_nI_mul, ← tp_nI_add, Nat.mul_comm]
theorem tp_ix_M (c i : Nat) : 4 * tp_nI c + tp_nI i = tp_nI (4 * c + i) := by
  show Int32.ofNat 4 * Int32.ofNat c + Int32.ofNat i = Int32.ofNat (4 * c + i)
  rw [← tp_nI_mul, ← tp_nI_add]
theorem tp_C_clS {σ : tp_St} {c i : Nat} (hc : c < 400) (hi : i < 4) (n : Nat) : fC_clearWords_L2 (tp_nI c) (n + 1) (tp_nI i) σ = fC_clearWords_L2 (tp_nI c) n (tp_nI (i + 1)) (tp_up σ 6 (4 * c + i) 0) := by
  rw [fC_clearWords_L2, if_neg (show ¬ (4 : Int32) ≤ tp_nI i from fun z => absurd ((tp_nI_le (i := 4) (by omega) (by omega)).mp z) (by omega)), tp_ix_C, if_neg (tp_bw (by omega)), tp_nI_t (by omega), tp_nI_s]
theorem tp_C_clear {σ : tp_St} {c : Nat} (hc : c < 400) : fC_clearWords σ (tp_nI c) = some (tp_z4 σ 6 c) := by
  rw [fC_clearWords, show (0 : Int32) = tp_nI 0 from rfl, tp_C_clS hc (by omega), tp_C_clS hc (by omega), tp_C_clS hc (by omega), tp_C_clS hc (by omega), fC_clearWords_L2, if_pos (by decide)]; rfl
theorem tp_M_clS {σ : tp_St} {c i : Nat} (hc : c < 400) (hi : i < 4) (n : Nat) : fM_newChunk_L107 (tp_nI c) (n + 1) (tp_nI i) σ = fM_newChunk_L107 (tp_nI c) n (tp_nI (i + 1)) (tp_up σ 5 (4 * c + i) 0) := by
  rw [fM_newChunk_L107, if_neg (show ¬ (4 : Int32) ≤ tp_nI i from fun z => absurd ((tp_nI_le (i := 4) (by omega) (by omega)).mp z) (by omega)), tp_ix_M, if_neg (tp_bw (by omega)), tp_nI_t (by omega), tp_nI_s]
theorem tp_M_clear {σ : tp_St} {c : Nat} (hc : c < 400) : fM_newChunk_L107 (tp_nI c) 5 0 σ = some (tp_nI c, tp_z4 σ 5 c) := by
  rw [show (0 : Int32) = tp_nI 0 from rfl, tp_M_clS hc (by omega), tp_M_clS hc (by omega), tp_M_clS hc (by omega), tp_M_clS hc (by omega), fM_newChunk_L107, if_pos (by decide)]; rfl
theorem tp_z4_at (σ : tp_St) (f c k : Nat) : tp_z4 σ f c f k = if k / 4 = c then 0 else σ f k := by
  rw [tp_z4, tp_up_at, tp_up_at, tp_up_at, tp_up_at]
  by_cases h : k / 4 = c
  · rw [if_pos h]
    rcases (show k = 4 * c + 3 ∨ k = 4 * c + 2 ∨ k = 4 * c + 1 ∨ k = 4 * c from by omega) with e | e | e | e <;> simp [e]
  · rw [if_neg h, if_neg (by omega), if_neg (by omega), if_neg (by omega), if_neg (by omega)]
theorem tp_Rel.z4 {X : Nat → Prop} {σ τ : tp_St} (R : tp_Rel X σ τ) (c : Nat) : tp_Rel X (tp_z4 σ 6 c) (tp_z4 τ 5 c) := by
  refine ⟨R.1, R.2.1, fun k hk => ?_, R.2.2.2⟩
  rw [tp_z4_at, tp_z4_at, R.2.2.1 k hk]
theorem tp_create_sim {σ τ : tp_St} (I : tp_Inv σ) (R : tp_Rel tp_noX σ τ) {c o t : Nat} (hc : c < 400) (h3 : σ 3 c = 0) (ho : o < 12) (ht : t < 12) (hot : o ≠ t) (fo : tp_cn σ o < tp_pl σ o) (ft : tp_cn σ t < tp_pl σ t) :
    ∃ σ' τ', ((fC_addCopy (tp_up σ 3 c (vp_nar .boolean 1)) (tp_nI c) (tp_nI o)).bind fun q12 => (fC_addCopy q12 (tp_nI c) (tp_nI t)).bind fun q14 => (fC_clearWords q14 (tp_nI c)).bind fun q16 => some (tp_nI c, q16)) = some (tp_nI c, σ') ∧
      fM_newChunk_L107 (tp_nI c) 5 0 (tp_up (tp_up τ 3 c (vp_nar .boolean 1)) 4 c ((1 <<< (tp_nI o &&& 31)) + (1 <<< (tp_nI t &&& 31)))) = some (tp_nI c, τ') ∧ tp_Inv σ' ∧ tp_Rel tp_noX σ' τ' ∧ τ' 0 = τ 0 ∧ tp_al σ' = tp_al σ + 1 := by
  have h45 : σ 4 c = -1 ∧ σ 5 c = -1 := by
    rcases I.2.2.2 c hc with z | z
    · exact z.2
    · rw [z.1] at h3; exact absurd h3 (by decide)
  rw [tp_vn1]
  have Ia : tp_Inv (tp_up σ 3 c 1) := by
    refine ⟨I.1, I.2.1, I.2.2.1, fun k hk => ?_⟩
    show ((if k = c then 1 else σ 3 k) = 0 ∧ σ 4 k = -1 ∧ σ 5 k = -1) ∨ ((if k = c then 1 else σ 3 k) = 1 ∧ tp_VV (σ 4 k) (σ 5 k))
    by_cases z : k = c
    · rw [if_pos z, z]; exact .inr ⟨rfl, .inl h45⟩
    · rw [if_neg z]; exact I.2.2.2 k hk
  have Ra : tp_Rel tp_noX (tp_up σ 3 c 1) (tp_up τ 3 c 1) := by
    refine ⟨R.1, fun k hk => ⟨?_, R.cp hk⟩, R.2.2⟩
    show (if k = c then 1 else τ 3 k) = if k = c then 1 else σ 3 k
    rw [R.th hk]
  have na : tp_nc (tp_up σ 3 c 1) c = 0 := if_pos h45.1
  have oa : ∀ e, e < 12 → tp_oN (tp_up σ 3 c 1) c e = false := fun e he => by
    show (decide (σ 4 c = tp_nI e) || decide (σ 5 c = tp_nI e)) = false
    rw [h45.1, h45.2, decide_eq_false (tp_nI_m' (by omega))]; rfl
  obtain ⟨σ1, r1, I1, o1, ⟨p0, p2, p3, p6, p7⟩, c1, R1⟩ := tp_add_spec Ia hc ho (show (if c = c then 1 else σ 3 c) = 1 from if_pos rfl) (by rw [na]; omega) (oa o ho) fo
  have n1 : tp_nc σ1 c < 2 := by
    rw [← tp_nc_cnt (I1.vv hc)]
    have k := tp_sumF_upd (f := fun e => (tp_oN σ1 c e).toNat) (g := fun e => (tp_oN (tp_up σ 3 c 1) c e).toNat) (c := o) (n := 12) ho (fun e he hne => by show (tp_oN σ1 c e).toNat = _; rw [o1 c e he, decide_eq_false hne, Bool.and_false, Bool.or_false])
    have k0 : tp_sumF (fun e => (tp_oN (tp_up σ 3 c 1) c e).toNat) 12 = 0 := tp_sumF_all0 (fun e he => by rw [oa e he]; rfl)
    have k1 : (tp_oN σ1 c o).toNat ≤ 1 := by cases tp_oN σ1 c o <;> decide
    show tp_sumF (fun e => (tp_oN σ1 c e).toNat) 12 < 2
    omega
  have ot1 : tp_oN σ1 c t = false := by rw [o1 c t ht, oa t ht, decide_eq_false (show ¬ t = o from fun z => hot z.symm), Bool.and_false]; rfl
  have f1 : tp_cn σ1 t < tp_pl σ1 t := by
    have k := c1 t ht
    rw [decide_eq_false (fun z => hot z.symm)] at k
    have t2 : (false).toNat = 0 := rfl
    have e1 : tp_pl σ1 t = tp_pl σ t := by rw [tp_pl, tp_pl, p0]; rfl
    have e2 : tp_cn (tp_up σ 3 c 1) t = tp_cn σ t := rfl
    omega
  obtain ⟨σ2, r2, I2, o2, ⟨q0, q2, q3, q6, q7⟩, c2, R2⟩ := tp_add_spec I1 hc ht (by rw [p3]; exact if_pos rfl) n1 ot1 f1
  have k := R2 tp_noX _ (R1 tp_noX _ Ra)
  have e1 : tp_up (tp_up τ 3 c 1) 4 c ((tp_up τ 3 c 1) 4 c + tp_bt (tp_nI o)) 4 c = τ 4 c + tp_bt (tp_nI o) := tp_up_eq
  have e2 : τ 4 c = 0 := by rw [R.cp hc, h45.1, h45.2]; exact tp_mk_z
  rw [tp_up_up, e1, e2, Int32.zero_add] at k
  refine ⟨tp_z4 σ2 6 c, tp_z4 (tp_up (tp_up τ 3 c 1) 4 c (tp_bt (tp_nI o) + tp_bt (tp_nI t))) 5 c, ?_, ?_, I2, k.z4 c, rfl, ?_⟩
  · rw [r1, Option.bind_some, r2, Option.bind_some, tp_C_clear hc]; rfl
  · rw [tp_bt_n ho, tp_bt_n ht]; exact tp_M_clear hc
  · show tp_cntF (fun i => decide (σ2 3 i ≠ 0)) 400 = tp_cntF (fun i => decide (σ 3 i ≠ 0)) 400 + 1
    have h := tp_sumF_upd (f := fun i => (decide (σ2 3 i ≠ 0)).toNat) (g := fun i => (decide (σ 3 i ≠ 0)).toNat) (c := c) (n := 400) hc (fun i hi hne => by
      show (decide (σ2 3 i ≠ 0)).toNat = (decide (σ 3 i ≠ 0)).toNat
      rw [q3, p3, show tp_up σ 3 c 1 3 i = σ 3 i from tp_up_nk hne])
    have h1 : σ2 3 c = 1 := by rw [q3, p3]; exact if_pos rfl
    have h2 : (decide (σ2 3 c ≠ 0)).toNat = 1 := by rw [h1]; rfl
    have h3' : (decide (σ 3 c ≠ 0)).toNat = 0 := by rw [h3]; rfl
    rw [h2, h3', Nat.add_zero] at h
    show tp_sumF (fun i => (decide (σ2 3 i ≠ 0)).toNat) 400 = tp_sumF (fun i => (decide (σ 3 i ≠ 0)).toNat) 400 + 1
    exact h
theorem tp_C_lun {σ : tp_St} : fC_leastUnusedNumber σ = some (tp_enc (tp_findF (fun c => decide (σ 3 c = 0)) 400 0)) := by
  have h := tp_find_loop0 (F := fun n x => fC_leastUnusedNumber_L2 σ n x) (N := 400) (p := fun c => decide (σ 3 c = 0)) (hit := fun j => some (tp_nI j)) (miss := some (-1)) (by
    show fC_leastUnusedNumber_L2 σ 1 (tp_nI 400) = _
    rw [fC_leastUnusedNumber_L2, if_pos (by decide)]) (fun n i hi => by
    show fC_leastUnusedNumber_L2 σ (n + 1) (tp_nI i) = _
    rw [fC_leastUnusedNumber_L2, if_neg (tp_g4 hi), if_neg (tp_b4 hi), tp_t4 hi]
    by_cases y : σ 3 i = 0
    · rw [if_pos y, decide_eq_true y]; rfl
    · rw [if_neg y, decide_eq_false y]; rfl)
  rw [fC_leastUnusedNumber]
  refine Eq.trans h ?_
  cases tp_findF (fun c => decide (σ 3 c = 0)) 400 0 <;> rfl
theorem tp_new_sim {σ τ : tp_St} (I : tp_Inv σ) (R : tp_Rel tp_noX σ τ) : ∃ r σ' τ', fC_newChunk σ = some (r, σ') ∧ fM_newChunk τ = some (r, τ') ∧ tp_Inv σ' ∧ tp_Rel tp_noX σ' τ' ∧ τ' 0 = τ 0 ∧ ((r = -1 ∧ σ' = σ) ∨ ((∃ c, c < 400 ∧ r = tp_nI c) ∧ tp_al σ' = tp_al σ + 1)) := by
  have hM : fM_newChunk τ = (tp_findF (fun c => decide (σ 3 c = 0)) 400 0).elim (some (-1, τ)) (fun i => fM_newChunk_L2 1 (tp_nI i) τ) := by
    refine tp_find_loop0 (F := fun n x => fM_newChunk_L2 n x τ) (N := 400) ?_ ?_
    · show fM_newChunk_L2 1 (tp_nI 400) τ = _
      rw [fM_newChunk_L2, if_pos (by decide), if_pos (by decide)]
    · intro n i hi
      show fM_newChunk_L2 (n + 1) (tp_nI i) τ = if decide (σ 3 i = 0) = true then fM_newChunk_L2 1 (tp_nI i) τ else fM_newChunk_L2 n (tp_nI i + 1) τ
      by_cases y : σ 3 i = 0
      · rw [decide_eq_true y, if_pos rfl, fM_newChunk_L2, fM_newChunk_L2, if_neg (tp_g4 hi), if_neg (tp_g4 hi), if_neg (tp_b4 hi), if_neg (tp_b4 hi), tp_t4 hi, R.th hi, if_pos y, if_pos y]
      · rw [decide_eq_false y, if_neg (by decide), fM_newChunk_L2, if_neg (tp_g4 hi), if_neg (tp_b4 hi), tp_t4 hi, R.th hi, if_neg y]
  rw [fC_newChunk, tp_C_lun, Option.bind_some, tp_C_emp, Option.bind_some, hM]
  cases hf : tp_findF (fun c => decide (σ 3 c = 0)) 400 0 with
  | none =>
    refine ⟨-1, σ, τ, ?_, rfl, I, R, rfl, .inl ⟨rfl, rfl⟩⟩
    show (if (-1 : Int32) = -1 then _ else _) = _
    rw [if_pos rfl]
  | some c =>
    obtain ⟨_, k1, k2, _⟩ := tp_findF_some hf
    have hc : c < 400 := by omega
    have h3 : σ 3 c = 0 := of_decide_eq_true k2
    have h400 : ¬ tp_nI c = 400 := fun z => absurd ((tp_nI_eq (j := 400) (by omega) (by omega)).mp z) (by omega)
    show ∃ r σ' τ', (if tp_nI c = -1 then _ else _) = _ ∧ fM_newChunk_L2 1 (tp_nI c) τ = _ ∧ _
    rw [show tp_enc (some c) = tp_nI c from rfl, if_neg (tp_nI_m (by omega)), fM_newChunk_L2, if_neg (tp_g4 hc)]
    simp only [if_neg (tp_b4 hc)]
    rw [tp_t4 hc, R.th hc, if_pos h3, if_neg h400, tp_M_emp1 I R (-1), Option.bind_some]
    cases he : tp_eM (tp_qB σ (-1)) (tp_fr σ) 12 with
    | none =>
      refine ⟨-1, σ, τ, ?_, ?_, I, R, rfl, .inl ⟨rfl, rfl⟩⟩
      · show (if (-1 : Int32) = -1 then _ else _) = _
        rw [if_pos rfl]
      · show (if 0 ≤ (-1 : Int32) then _ else (if (-1 : Int32) < 0 then _ else _)) = _
        rw [if_neg (by decide), if_pos (by decide)]
    | some o =>
      obtain ⟨ho, hqo, hfo⟩ := tp_eM_some he
      have fo := (tp_fr_pos I ho).mp hfo
      have p0 : 0 ≤ tp_nI o := Int32.not_lt.mp (tp_nI_nn (by omega))
      rw [show tp_enc (some o) = tp_nI o from rfl, if_neg (tp_nI_m (by omega)), if_pos p0, tp_M_emp1 I R (tp_nI o), Option.bind_some, tp_C_emp, Option.bind_some, if_neg (tp_nI_nn (by omega))]
      cases h2 : tp_eM (tp_qB σ (tp_nI o)) (tp_fr σ) 12 with
      | some t =>
        obtain ⟨ht, hqt, hft⟩ := tp_eM_some h2
        have p1 : 0 ≤ tp_nI t := Int32.not_lt.mp (tp_nI_nn (by omega))
        have hot : o ≠ t := fun z => by
          rw [tp_qB, Bool.and_eq_true, decide_eq_true_eq] at hqt
          exact hqt.1 (by rw [z])
        rw [show tp_enc (some t) = tp_nI t from rfl, if_neg (tp_nI_m (by omega)), if_neg (tp_nI_m (by omega)), if_pos p1, if_pos p1]
        obtain ⟨σ', τ', a1, a2, a3, a4, a5, a6⟩ := tp_create_sim I R hc h3 ho ht hot fo ((tp_fr_pos I ht).mp hft)
        exact ⟨tp_nI c, σ', τ', a1, a2, a3, a4, a5, .inr ⟨⟨c, hc, rfl⟩, a6⟩⟩
      | none =>
        rw [show tp_enc none = -1 from rfl, if_pos (show (-1 : Int32) = -1 from rfl), if_neg (show ¬ (0 : Int32) ≤ -1 by decide), tp_C_free ho, Option.bind_some, tp_M_freeOn I R ho, Option.bind_some]
        by_cases z : tp_fr σ o < 2
        · refine ⟨-1, σ, τ, ?_, ?_, I, R, rfl, .inl ⟨rfl, rfl⟩⟩
          · rw [if_pos z, if_pos rfl]
          · rw [if_pos z, if_neg (by decide)]
        · rw [if_neg z, if_neg z]
          have f2 : tp_cn σ o + 2 ≤ tp_pl σ o := by
            obtain ⟨i1, i2, i3⟩ := I.pl ho
            rw [tp_frN I ho] at z
            have w := mt (tp_nI_lt (i := tp_pl σ o - tp_cn σ o) (j := 2) (by omega) (by omega)).mpr z
            omega
          rcases tp_room_sim I R ho fo with ⟨_, b1, b2⟩ | ⟨c', a, σ1, τ1, hc', ha, _, oa, oo, hs, b1, b2, I1, R1, t1, _, ⟨s0, s2, s3, s6⟩, c1⟩
          · refine ⟨-1, σ, τ, ?_, ?_, I, R, rfl, .inl ⟨rfl, rfl⟩⟩
            · rw [b1, Option.bind_some, if_pos rfl]
            · rw [b2, Option.bind_some]; exact if_neg (show ¬ (0 : Int32) ≤ -1 by decide)
          · have hoa : o ≠ a := fun w => by rw [w, oa] at oo; cases oo
            have t0 : (true).toNat = 1 := rfl
            have t2 : (false).toNat = 0 := rfl
            have e1 := c1 o ho
            have e2 := c1 a ha
            rw [decide_eq_false hoa, decide_eq_true rfl] at e1
            rw [decide_eq_true rfl, decide_eq_false (fun w => hoa w.symm)] at e2
            have pp : ∀ e, tp_pl σ1 e = tp_pl σ e := fun e => by rw [tp_pl, tp_pl, s0]
            have i3 := (I.pl ha).2.2
            have p1 : 0 ≤ tp_nI a := Int32.not_lt.mp (tp_nI_nn (by omega))
            obtain ⟨σ', τ', a1, a2, a3, a4, a5, a6⟩ := tp_create_sim I1 R1 hc (by rw [s3]; exact h3) ho ha hoa (by rw [pp]; omega) (by rw [pp]; omega)
            refine ⟨tp_nI c, σ', τ', ?_, ?_, a3, a4, a5.trans t1, .inr ⟨⟨c, hc, rfl⟩, ?_⟩⟩
            · rw [b1, Option.bind_some]
              show (if tp_nI a = -1 then _ else _) = _
              rw [if_neg (tp_nI_m (by omega))]; exact a1
            · rw [b2, Option.bind_some]
              show (if 0 ≤ tp_nI a then _ else _) = _
              rw [if_pos p1]; exact a2
            · rw [a6]; unfold tp_al; rw [s3]
end
section
def tp_wt (σ : tp_St) (c : Nat) : Nat := (tp_dg σ c).toNat + tp_cntF (fun e => tp_oN σ c e && decide (σ 2 e ≠ 0)) 12
def tp_mu (σ : tp_St) : Nat := tp_sumF (tp_wt σ) 400
theorem tp_mu_le (σ : tp_St) : tp_mu σ ≤ 5200 := by
  have h := tp_sumF_le (f := tp_wt σ) (b := 13) (n := 400) (fun i _ => by
    have h1 : (tp_dg σ i).toNat ≤ 1 := by cases tp_dg σ i <;> decide
    have h2 := tp_cntF_le (fun e => tp_oN σ i e && decide (σ 2 e ≠ 0)) 12
    unfold tp_wt
    omega)
  unfold tp_mu
  omega
def tp_tk (σ : tp_St) (c : Nat) : Bool := (tp_eM (tp_qO σ c) (tp_fr σ) 12).isSome
theorem tp_tk_of {σ : tp_St} {c e : Nat} (he : e < 12) (ho : tp_oN σ c e = false) (hs : tp_sy σ e = true) (hf : 0 < tp_fr σ e) : tp_tk σ c = true := by
  obtain ⟨d, hd⟩ := tp_eM_ex (q := tp_qO σ c) (f := tp_fr σ) he (by rw [tp_qO, ho, hs]; rfl) hf
  rw [tp_tk, hd]; rfl
theorem tp_tk_no {σ : tp_St} {c e : Nat} (h : tp_tk σ c = false) (he : e < 12) (hs : tp_sy σ e = true) (hf : 0 < tp_fr σ e) : tp_oN σ c e = true := by
  cases ho : tp_oN σ c e with
  | true => rfl
  | false => rw [tp_tk_of he ho hs hf] at h; cases h
theorem tp_tk_some {σ : tp_St} {c : Nat} (h : tp_tk σ c = true) : ∃ e, tp_eM (tp_qO σ c) (tp_fr σ) 12 = some e ∧ e < 12 ∧ tp_oN σ c e = false ∧ tp_sy σ e = true ∧ 0 < tp_fr σ e := by
  rw [tp_tk, Option.isSome_iff_exists] at h
  obtain ⟨e, he⟩ := h
  obtain ⟨h1, h2, h3⟩ := tp_eM_some he
  rw [tp_qO, Bool.and_eq_true, Bool.not_eq_true'] at h2
  exact ⟨e, he, h1, h2.1, h2.2, h3⟩
theorem tp_tk_none {σ : tp_St} {c : Nat} (h : tp_tk σ c = false) : tp_eM (tp_qO σ c) (tp_fr σ) 12 = none := by
  rw [tp_tk] at h
  cases he : tp_eM (tp_qO σ c) (tp_fr σ) 12 with
  | none => rfl
  | some e => rw [he] at h; cases h
theorem tp_dg_V {σ : tp_St} {c : Nat} (hV : tp_VV (σ 4 c) (σ 5 c)) (h : tp_dg σ c = true) : ∃ a, a < 12 ∧ σ 4 c = tp_nI a ∧ σ 5 c = -1 := by
  have h1 : tp_nc σ c = 1 := of_decide_eq_true h
  rcases hV with ⟨h2, h3⟩ | ⟨a, ha, h2, h3⟩ | ⟨a, b, hab, hb, h2, h3⟩
  · rw [tp_nc, h2, if_pos rfl] at h1; omega
  · exact ⟨a, ha, h2, h3⟩
  · rw [tp_nc, h2, h3, if_neg (tp_nI_m (by omega)), if_neg (tp_nI_m (by omega))] at h1; omega
theorem tp_oN_1 {σ : tp_St} {c a e : Nat} (h4 : σ 4 c = tp_nI a) (h5 : σ 5 c = -1) (ha : a < 12) (he : e < 12) : tp_oN σ c e = decide (e = a) := by
  rw [tp_oN, h4, h5, decide_eq_false (tp_nI_m' (i := e) (by omega)), Bool.or_false]
  exact decide_eq_decide.mpr ⟨fun z => ((tp_nI_eq (by omega) (by omega)).mp z).symm, fun z => by rw [z]⟩
theorem tp_dg_ex {σ : tp_St} (I : tp_Inv σ) {c : Nat} (hc : c < 400) (h : tp_dg σ c = true) : σ 3 c = 1 := by
  obtain ⟨a, ha, h4, h5⟩ := tp_dg_V (I.vv hc) h
  exact I.ex hc (by rw [h4]; exact tp_nI_m (by omega))
theorem tp_qBO1 {σ : tp_St} {c a : Nat} (h4 : σ 4 c = tp_nI a) (h5 : σ 5 c = -1) (ha : a < 12) : tp_eM (tp_qB σ (σ 4 c)) (tp_fr σ) 12 = tp_eM (tp_qO σ c) (tp_fr σ) 12 :=
  tp_eM_congr (fun e he => by
    rw [tp_qB, tp_qO, tp_oN_1 h4 h5 ha he, h4]
    congr 1
    by_cases z : e = a
    · rw [z, decide_eq_true rfl, decide_eq_false (fun w => w rfl)]; rfl
    · rw [decide_eq_false z, decide_eq_true (show tp_nI e ≠ tp_nI a from fun w => z ((tp_nI_eq (by omega) (by omega)).mp w))]; rfl)
theorem tp_mv_cnt {p : Nat → Bool} {a b : Nat} (ha : a < 12) (hb : b < 12) (pa : p a = true) (pb : p b = false) : tp_cntF (fun e => (p e && !decide (e = a)) || decide (e = b)) 12 = tp_cntF p 12 := by
  have hab : b ≠ a := fun z => by rw [z, pa] at pb; cases pb
  have k1 : tp_sumF (fun e => (p e && !decide (e = a)).toNat) 12 + (p a).toNat = tp_sumF (fun e => (p e).toNat) 12 + (p a && !decide (a = a)).toNat := tp_sumF_upd (f := fun e => (p e && !decide (e = a)).toNat) (g := fun e => (p e).toNat) (c := a) (n := 12) ha (fun e _ hne => by show (p e && !decide (e = a)).toNat = _; rw [decide_eq_false hne]; exact congrArg Bool.toNat (Bool.and_true _))
  have k2 : tp_sumF (fun e => ((p e && !decide (e = a)) || decide (e = b)).toNat) 12 + (p b && !decide (b = a)).toNat = tp_sumF (fun e => (p e && !decide (e = a)).toNat) 12 + ((p b && !decide (b = a)) || decide (b = b)).toNat := tp_sumF_upd (f := fun e => ((p e && !decide (e = a)) || decide (e = b)).toNat) (g := fun e => (p e && !decide (e = a)).toNat) (c := b) (n := 12) hb (fun e _ hne => by show ((p e && !decide (e = a)) || decide (e = b)).toNat = _; rw [decide_eq_false hne, Bool.or_false])
  have e1 : (p a && !decide (a = a)).toNat = 0 := by rw [decide_eq_true rfl, pa]; rfl
  have e2 : (p b && !decide (b = a)).toNat = 0 := by rw [pb]; rfl
  have e3 : ((p b && !decide (b = a)) || decide (b = b)).toNat = 1 := by rw [decide_eq_true (rfl : b = b), Bool.or_true]; rfl
  have e4 : (p a).toNat = 1 := by rw [pa]; rfl
  show tp_sumF (fun e => ((p e && !decide (e = a)) || decide (e = b)).toNat) 12 = tp_sumF (fun e => (p e).toNat) 12
  rw [e1, e4] at k1
  rw [e2, e3] at k2
  omega
def tp_pM (σ : tp_St) (c : Nat) : Bool := tp_dg σ c && tp_tk σ c
theorem tp_C_mend {σ : tp_St} (I : tp_Inv σ) : fC_mendOne σ = (tp_findF (tp_pM σ) 400 0).elim (some (0, σ)) (fun c => (fC_addCopy σ (tp_nI c) (tp_enc (tp_eM (tp_qO σ c) (tp_fr σ) 12))).bind fun q => some (1, q)) := by
  refine tp_find_loop0 (F := fun n x => fC_mendOne_L2 n x σ) (N := 400) ?_ ?_
  · show fC_mendOne_L2 1 (tp_nI 400) σ = _
    rw [fC_mendOne_L2, if_pos (by decide)]
  · intro n i hi
    show fC_mendOne_L2 (n + 1) (tp_nI i) σ = _
    rw [fC_mendOne_L2, if_neg (tp_g4 hi), tp_C_deg hi, Option.bind_some, tp_if_bI, tp_pM]
    cases hg : tp_dg σ i with
    | false => rfl
    | true =>
      obtain ⟨a, ha, h4, h5⟩ := tp_dg_V (I.vv hi) hg
      rw [if_pos rfl, if_neg (tp_b4 hi), tp_t4 hi, tp_C_emp, Option.bind_some, tp_qBO1 h4 h5 ha, Bool.true_and, tp_tk]
      cases he : tp_eM (tp_qO σ i) (tp_fr σ) 12 with
      | none => rfl
      | some e => 
        show (if tp_nI e = -1 then _ else _) = _
        rw [if_neg (tp_nI_m (by have := tp_eM_12 (Nat.le_refl _) he; omega))]; rfl
theorem tp_M_mend {σ τ : tp_St} (I : tp_Inv σ) (R : tp_Rel tp_noX σ τ) : fM_copyOne τ = (tp_findF (tp_pM σ) 400 0).elim (some ((0 : Int32), τ)) (fun c => some ((1 : Int32), tp_up τ 4 c (τ 4 c + 1 <<< (tp_enc (tp_eM (tp_qO σ c) (tp_fr σ) 12) &&& 31)))) := by
  refine tp_find_loop0 (F := fun n x => fM_copyOne_L2 n x τ) (N := 400) ?_ ?_
  · show fM_copyOne_L2 1 (tp_nI 400) τ = _
    rw [fM_copyOne_L2, if_pos (by decide)]
  · intro n i hi
    show fM_copyOne_L2 (n + 1) (tp_nI i) τ = _
    rw [fM_copyOne_L2, if_neg (tp_g4 hi), if_neg (tp_b4 hi), tp_t4 hi, R.th hi, tp_M_howMany I R hi, Option.bind_some, tp_pM]
    have hn := tp_nc_lt σ i
    cases hg : tp_dg σ i with
    | false =>
      have : ¬ tp_nI (tp_nc σ i) = 1 := fun z => by
        have z' := (tp_nI_eq (j := 1) (by omega) (by omega)).mp z
        rw [tp_dg, decide_eq_true z'] at hg; cases hg
      rw [if_neg this]; exact ite_self _
    | true =>
      have : tp_nI (tp_nc σ i) = 1 := by rw [show tp_nc σ i = 1 from of_decide_eq_true hg]; rfl
      rw [if_neg (by rw [tp_dg_ex I hi hg]; decide), if_pos this, tp_M_emp2 I R hi, Option.bind_some, Bool.true_and, tp_tk]
      cases he : tp_eM (tp_qO σ i) (tp_fr σ) 12 with
      | none => rfl
      | some e =>
        show (if tp_nI e < 0 then _ else _) = _
        rw [if_neg (tp_nI_nn (by have := tp_eM_12 (Nat.le_refl _) he; omega))]; rfl
theorem tp_mend_sim {σ τ : tp_St} (I : tp_Inv σ) (R : tp_Rel tp_noX σ τ) :
    ((∀ c, c < 400 → tp_dg σ c = true → tp_tk σ c = false) ∧ fC_mendOne σ = some (0, σ) ∧ fM_copyOne τ = some (0, τ)) ∨
    ∃ σ' τ', fC_mendOne σ = some (1, σ') ∧ fM_copyOne τ = some (1, τ') ∧ tp_Inv σ' ∧ tp_Rel tp_noX σ' τ' ∧ τ' 0 = τ 0 ∧ tp_mu σ' < tp_mu σ := by
  rw [tp_C_mend I, tp_M_mend I R]
  cases hf : tp_findF (tp_pM σ) 400 0 with
  | none =>
    refine .inl ⟨fun c hc h => ?_, rfl, rfl⟩
    have := tp_findF_none hf c (by omega) (by omega)
    rw [tp_pM, h, Bool.true_and] at this
    exact this
  | some c =>
    obtain ⟨_, k1, k2, _⟩ := tp_findF_some hf
    have hc : c < 400 := by omega
    rw [tp_pM, Bool.and_eq_true] at k2
    obtain ⟨e, he, h1, h2, h3, h4⟩ := tp_tk_some k2.2
    have hn : tp_nc σ c = 1 := of_decide_eq_true k2.1
    obtain ⟨σ', r1, I1, o1, ⟨p0, p2, p3, p6, p7⟩, c1, R1⟩ := tp_add_spec I hc h1 (tp_dg_ex I hc k2.1) (by omega) h2 ((tp_fr_pos I h1).mp h4)
    refine .inr ⟨σ', _, ?_, ?_, I1, R1 tp_noX τ R, rfl, ?_⟩
    · show (fC_addCopy σ (tp_nI c) (tp_enc (tp_eM (tp_qO σ c) (tp_fr σ) 12))).bind _ = _
      rw [he]
      show (fC_addCopy σ (tp_nI c) (tp_nI e)).bind _ = _
      rw [r1]; rfl
    · show some ((1 : Int32), tp_up τ 4 c (τ 4 c + 1 <<< (tp_enc (tp_eM (tp_qO σ c) (tp_fr σ) 12) &&& 31))) = _
      rw [he]
      show some ((1 : Int32), tp_up τ 4 c (τ 4 c + 1 <<< (tp_nI e &&& 31))) = _
      rw [tp_bt_n h1]
    · have kw : ∀ i, i < 400 → i ≠ c → tp_wt σ' i = tp_wt σ i := fun i hi hne => by
        have hoi : ∀ x, x < 12 → tp_oN σ' i x = tp_oN σ i x := fun x hx => by rw [o1 i x hx, decide_eq_false hne, Bool.false_and, Bool.or_false]
        unfold tp_wt tp_dg
        rw [← tp_nc_cnt (I1.vv hi), ← tp_nc_cnt (I.vv hi), p2]
        rw [show tp_cntF (fun x => tp_oN σ' i x) 12 = tp_cntF (fun x => tp_oN σ i x) 12 from tp_cntF_congr (fun x hx => by rw [hoi x hx]), show tp_cntF (fun x => tp_oN σ' i x && decide (σ 2 x ≠ 0)) 12 = tp_cntF (fun x => tp_oN σ i x && decide (σ 2 x ≠ 0)) 12 from tp_cntF_congr (fun x hx => by rw [hoi x hx])]
      have k := tp_sumF_upd (f := tp_wt σ') (g := tp_wt σ) (c := c) (n := 400) hc kw
      have hlv : tp_cntF (fun x => tp_oN σ' c x && decide (σ' 2 x ≠ 0)) 12 = tp_cntF (fun x => tp_oN σ c x && decide (σ 2 x ≠ 0)) 12 := tp_cntF_congr (fun x hx => by
        rw [o1 c x hx, p2]
        by_cases z : x = e
        · rw [z, (tp_sy_iff.mp h3).2, decide_eq_false (fun w : (0 : Int32) ≠ 0 => w rfl), Bool.and_false, Bool.and_false]
        · rw [decide_eq_false z, Bool.and_false, Bool.or_false])
      have hn2 : tp_nc σ' c = 2 := by
        rw [← tp_nc_cnt (I1.vv hc)]
        have q := tp_sumF_upd (f := fun x => (tp_oN σ' c x).toNat) (g := fun x => (tp_oN σ c x).toNat) (c := e) (n := 12) h1 (fun x hx hne => by show (tp_oN σ' c x).toNat = _; rw [o1 c x hx, decide_eq_false hne, Bool.and_false, Bool.or_false])
        have q1 : tp_oN σ' c e = true := by rw [o1 c e h1, decide_eq_true rfl, decide_eq_true rfl, Bool.and_true, Bool.or_true]
        have q2 : tp_cntF (fun x => tp_oN σ' c x) 12 + (tp_oN σ c e).toNat = tp_cntF (fun x => tp_oN σ c x) 12 + (tp_oN σ' c e).toNat := q
        rw [tp_nc_cnt (I.vv hc), h2, q1] at q2
        have t1 : (true).toNat = 1 := rfl
        have t2 : (false).toNat = 0 := rfl
        omega
      have w1 : tp_wt σ c = 1 + tp_cntF (fun x => tp_oN σ c x && decide (σ 2 x ≠ 0)) 12 := by unfold tp_wt; rw [k2.1]; rfl
      have w2 : tp_wt σ' c = 0 + tp_cntF (fun x => tp_oN σ c x && decide (σ 2 x ≠ 0)) 12 := by unfold tp_wt; rw [hlv, tp_dg, hn2]; rfl
      unfold tp_mu
      omega
theorem tp_mu_room {σ σ' : tp_St} (I : tp_Inv σ) (I1 : tp_Inv σ') {c a D : Nat} (hc : c < 400) (ha : a < 12) (hD : D < 12) (oa : tp_oN σ c a = true) (oD : tp_oN σ c D = false) (sa : tp_sy σ a = true) (sD : tp_sy σ D = true) (o1 : ∀ c' e, e < 12 → tp_oN σ' c' e = tp_mvO σ c a D c' e) (p2 : σ' 2 = σ 2) :
    tp_mu σ' = tp_mu σ ∧ (∀ i, i < 400 → tp_dg σ' i = tp_dg σ i) := by
  have hn : ∀ i, i < 400 → tp_nc σ' i = tp_nc σ i := fun i hi => by
    rw [← tp_nc_cnt (I1.vv hi), ← tp_nc_cnt (I.vv hi)]
    by_cases z : i = c
    · rw [z, show tp_cntF (fun e => tp_oN σ' c e) 12 = tp_cntF (fun e => (tp_oN σ c e && !decide (e = a)) || decide (e = D)) 12 from tp_cntF_congr (fun e he => by rw [o1 c e he, tp_mvO, if_pos rfl])]
      exact tp_mv_cnt ha hD oa oD
    · exact tp_cntF_congr (fun e he => by rw [o1 i e he, tp_mvO, if_neg z])
  have hd : ∀ i, i < 400 → tp_dg σ' i = tp_dg σ i := fun i hi => by rw [tp_dg, tp_dg, hn i hi]
  refine ⟨tp_sumF_congr (fun i hi => ?_), hd⟩
  unfold tp_wt
  rw [hd i hi, p2]
  congr 1
  refine tp_cntF_congr (fun e he => ?_)
  rw [o1 i e he, tp_mvO]
  by_cases z : i = c
  · rw [if_pos z, z]
    by_cases w : e = a
    · rw [w, (tp_sy_iff.mp sa).2, decide_eq_false (fun v : (0 : Int32) ≠ 0 => v rfl), Bool.and_false, Bool.and_false]
    · by_cases v : e = D
      · rw [v, (tp_sy_iff.mp sD).2, decide_eq_false (fun v : (0 : Int32) ≠ 0 => v rfl), Bool.and_false, Bool.and_false]
      · rw [decide_eq_false w, decide_eq_false v, Bool.not_false, Bool.and_true, Bool.or_false]
  · rw [if_neg z]
def tp_g1 (σ : tp_St) : Prop := ∃ c, c < 400 ∧ tp_dg σ c = true ∧ tp_tk σ c = true
def tp_g3 (σ : tp_St) : Prop := (∀ c, c < 400 → tp_dg σ c = false) ∧ ∃ d c, d < 12 ∧ c < 400 ∧ σ 2 d ≠ 0 ∧ tp_oN σ c d = true ∧ tp_tk σ c = true
def tp_pR (σ : tp_St) (c : Nat) (x : Int32) (e : Nat) : Bool := decide (tp_nI e ≠ x) && (tp_oN σ c e && (tp_sy σ e && (decide (0 < tp_fr σ e) && (tp_fR σ e).isSome)))
theorem tp_M_rf {σ τ : tp_St} (I : tp_Inv σ) (R : tp_Rel tp_noX σ τ) {c : Nat} (hc : c < 400) (x : Int32) : fM_roomFor τ (tp_nI c) x = (tp_findF (tp_pR σ c x) 12 0).elim (some (0, τ)) (fun e => (fM_makeRoom τ (tp_nI e)).bind fun q => some (1, q.2)) := by
  refine tp_find_loop0 (F := fun n y => fM_roomFor_L2 (tp_nI c) x n y τ) (N := 12) ?_ ?_
  · show fM_roomFor_L2 (tp_nI c) x 1 (tp_nI 12) τ = _
    rw [fM_roomFor_L2, if_pos (by decide)]
  · intro n e he
    show fM_roomFor_L2 (tp_nI c) x (n + 1) (tp_nI e) τ = _
    rw [fM_roomFor_L2, if_neg (tp_gd he), tp_M_isOn I R hc he, Option.bind_some, tp_if_bI, tp_M_stays R he, Option.bind_some, tp_if_bI, tp_M_freeOn I R he, Option.bind_some, tp_pR]
    by_cases y : tp_nI e = x
    · rw [if_pos y, decide_eq_false (fun w => w y)]; rfl
    · rw [if_neg y, decide_eq_true y, Bool.true_and]
      cases tp_oN σ c e with
      | false => rfl
      | true =>
        cases hs : tp_sy σ e with
        | false => rfl
        | true =>
          rw [if_pos rfl, if_pos rfl, Bool.true_and, Bool.true_and]
          by_cases z : 0 < tp_fr σ e
          · rw [if_neg (Int32.not_le.mpr z), decide_eq_true z, Bool.true_and]
            rcases tp_room_sim I R he ((tp_fr_pos I he).mp z) with ⟨h1, b1, b2⟩ | ⟨c', a, σ', τ', hc', ha, h1, oa, oo, hs', b1, b2, _⟩
            · rw [b2, Option.bind_some, h1]
              show (if (-1 : Int32) < 0 then _ else _) = _
              rw [if_pos (by decide)]; rfl
            · rw [b2, Option.bind_some, Option.bind_some, h1]
              show (if tp_nI a < 0 then _ else _) = _
              rw [if_neg (tp_nI_nn (by omega))]; rfl
          · rw [if_pos (Int32.not_lt.mp z), decide_eq_false z]; rfl
def tp_pW (σ : tp_St) (c : Nat) : Bool := tp_dg σ c && tp_swr σ (σ 4 c)
theorem tp_C_rtm {σ : tp_St} (I : tp_Inv σ) : fC_makeRoomToMend σ = (tp_findF (tp_pW σ) 400 0).elim (some (0, σ)) (fun c => (fC_makeRoomBeside σ (σ 4 c)).bind fun q => if q.1 = -1 then some (0, q.2) else some (1, q.2)) := by
  refine tp_find_loop0 (F := fun n x => fC_makeRoomToMend_L2 n x σ) (N := 400) ?_ ?_
  · show fC_makeRoomToMend_L2 1 (tp_nI 400) σ = _
    rw [fC_makeRoomToMend_L2, if_pos (by decide)]
  · intro n i hi
    show fC_makeRoomToMend_L2 (n + 1) (tp_nI i) σ = _
    rw [fC_makeRoomToMend_L2, if_neg (tp_g4 hi), tp_C_deg hi, Option.bind_some, tp_if_bI, if_neg (tp_b4 hi), tp_t4 hi, tp_C_swr (I.vv hi).l, Option.bind_some, tp_if_bI, tp_pW]
    cases tp_dg σ i with
    | false => rfl
    | true => cases tp_swr σ (σ 4 i) <;> rfl
def tp_pQ (σ : tp_St) (c : Nat) : Bool := tp_dg σ c && (tp_findF (tp_pR σ c (-1)) 12 0).isSome
theorem tp_M_rtm {σ τ : tp_St} (I : tp_Inv σ) (R : tp_Rel tp_noX σ τ) : fM_roomForOne τ = (tp_findF (tp_pQ σ) 400 0).elim (some (0, τ)) (fun c => fM_roomFor τ (tp_nI c) (-1)) := by
  refine tp_find_loop0 (F := fun n x => fM_roomForOne_L2 n x τ) (N := 400) ?_ ?_
  · show fM_roomForOne_L2 1 (tp_nI 400) τ = _
    rw [fM_roomForOne_L2, if_pos (by decide)]
  · intro n i hi
    show fM_roomForOne_L2 (n + 1) (tp_nI i) τ = _
    rw [fM_roomForOne_L2, if_neg (tp_g4 hi), if_neg (tp_b4 hi), tp_t4 hi, R.th hi, tp_M_howMany I R hi, Option.bind_some, tp_pQ]
    have hn := tp_nc_lt σ i
    cases hg : tp_dg σ i with
    | false =>
      have : ¬ tp_nI (tp_nc σ i) = 1 := fun z => by
        have z' := (tp_nI_eq (j := 1) (by omega) (by omega)).mp z
        rw [tp_dg, decide_eq_true z'] at hg; cases hg
      rw [if_neg this]; exact ite_self _
    | true =>
      have : tp_nI (tp_nc σ i) = 1 := by rw [show tp_nc σ i = 1 from of_decide_eq_true hg]; rfl
      rw [if_neg (by rw [tp_dg_ex I hi hg]; decide), if_pos this, tp_M_rf I R hi, Bool.true_and]
      cases hf : tp_findF (tp_pR σ i (-1)) 12 0 with
      | none => rfl
      | some e =>
        obtain ⟨_, k1, k2, _⟩ := tp_findF_some hf
        rw [tp_pR, Bool.and_eq_true, Bool.and_eq_true, Bool.and_eq_true, Bool.and_eq_true] at k2
        rcases tp_room_sim I R (show e < 12 by omega) ((tp_fr_pos I (by omega)).mp (of_decide_eq_true k2.2.2.2.1)) with ⟨h1, _⟩ | ⟨c', a, σ', τ', hc', ha, h1, oa, oo, hs', b1, b2, _⟩
        · rw [h1] at k2; exact absurd k2.2.2.2.2 (by decide)
        · show ((fM_makeRoom τ (tp_nI e)).bind fun q => some (1, q.2)).bind _ = (fM_makeRoom τ (tp_nI e)).bind fun q => some (1, q.2)
          rw [b2]; rfl
end
section
theorem tp_pR_iff {σ : tp_St} {c : Nat} {x : Int32} {e : Nat} : tp_pR σ c x e = true ↔ tp_nI e ≠ x ∧ tp_oN σ c e = true ∧ tp_sy σ e = true ∧ 0 < tp_fr σ e ∧ (tp_fR σ e).isSome = true := by
  rw [tp_pR, Bool.and_eq_true, Bool.and_eq_true, Bool.and_eq_true, Bool.and_eq_true, decide_eq_true_eq, decide_eq_true_eq]
theorem tp_swr_n {σ : tp_St} {d : Nat} (hd : d < 12) : tp_swr σ (tp_nI d) = true ↔ tp_sy σ d = true ∧ 0 < tp_fr σ d := by rw [tp_swr, tp_syv_n σ hd, tp_td hd, Bool.and_eq_true, decide_eq_true_eq]
theorem tp_swr_m {σ : tp_St} : tp_swr σ (-1) = false := by rw [tp_swr, tp_syv_m]; rfl
theorem tp_fr_room {σ σ' : tp_St} (I1 : tp_Inv σ') {a D : Nat} (ha : a < 12) (p0 : σ' 0 = σ 0) (c1 : tp_cn σ' a + 1 = tp_cn σ a) (i3 : tp_cn σ a ≤ tp_pl σ a) : 0 < tp_fr σ' a := by
  refine (tp_fr_pos I1 ha).mpr ?_
  have : tp_pl σ' a = tp_pl σ a := by rw [tp_pl, tp_pl, p0]
  omega
theorem tp_rtm_sim {σ τ : tp_St} (I : tp_Inv σ) (R : tp_Rel tp_noX σ τ) (hm : ∀ c, c < 400 → tp_dg σ c = true → tp_tk σ c = false) :
    ((∀ c, c < 400 → tp_dg σ c = true → ∀ D, D < 12 → tp_oN σ c D = true → tp_sy σ D = true → 0 < tp_fr σ D → tp_fR σ D = none) ∧ fC_makeRoomToMend σ = some (0, σ) ∧ fM_roomForOne τ = some (0, τ)) ∨
    ∃ σ' τ', fC_makeRoomToMend σ = some (1, σ') ∧ fM_roomForOne τ = some (1, τ') ∧ tp_Inv σ' ∧ tp_Rel tp_noX σ' τ' ∧ τ' 0 = τ 0 ∧ tp_mu σ' = tp_mu σ ∧ tp_g1 σ' ∧ ∃ c, c < 400 ∧ tp_dg σ c = true := by
  rw [tp_C_rtm I, tp_M_rtm I R]
  have hp : ∀ c, c < 400 → tp_pQ σ c = true → tp_pW σ c = true := fun c hc h => by
    rw [tp_pQ, Bool.and_eq_true, Option.isSome_iff_exists] at h
    obtain ⟨hg, e, he⟩ := h
    obtain ⟨a, ha, h4, h5⟩ := tp_dg_V (I.vv hc) hg
    obtain ⟨_, k1, k2, _⟩ := tp_findF_some he
    obtain ⟨_, ho, hs, hf, _⟩ := tp_pR_iff.mp k2
    rw [tp_oN_1 h4 h5 ha (by omega), decide_eq_true_eq] at ho
    rw [tp_pW, hg, h4, Bool.true_and, tp_swr_n ha, ← ho]
    exact ⟨hs, hf⟩
  cases hf : tp_findF (tp_pW σ) 400 0 with
  | none =>
    have hno := tp_findF_none hf
    have hq : tp_findF (tp_pQ σ) 400 0 = none := tp_findF_no (fun c hc => by
      cases h : tp_pQ σ c with
      | false => rfl
      | true => have := hno c (by omega) (by omega); rw [hp c hc h] at this; cases this)
    refine .inl ⟨fun c hc hg D hD ho hs hfr => ?_, rfl, by rw [hq]; rfl⟩
    obtain ⟨a, ha, h4, h5⟩ := tp_dg_V (I.vv hc) hg
    rw [tp_oN_1 h4 h5 ha hD, decide_eq_true_eq] at ho
    have := hno c (by omega) (by omega)
    rw [tp_pW, hg, Bool.true_and, h4, ← ho, (tp_swr_n hD).mpr ⟨hs, hfr⟩] at this
    cases this
  | some c =>
    obtain ⟨_, k1, k2, k3⟩ := tp_findF_some hf
    have hc : c < 400 := by omega
    rw [tp_pW, Bool.and_eq_true] at k2
    obtain ⟨D, hD, h4, h5⟩ := tp_dg_V (I.vv hc) k2.1
    have hsw := k2.2
    rw [h4, tp_swr_n hD] at hsw
    have hall : ∀ e, e < 12 → tp_sy σ e = true → 0 < tp_fr σ e → e = D := fun e he hs hfr => by
      have := tp_tk_no (hm c hc k2.1) he hs hfr
      rw [tp_oN_1 h4 h5 hD he, decide_eq_true_eq] at this
      exact this
    rcases tp_room_sim I R hD ((tp_fr_pos I hD).mp hsw.2) with ⟨h1, b1, b2⟩ | ⟨c', a, σ', τ', hc', ha, h1, oa, oo, hs', b1, b2, I1, R1, t0, o1, ⟨s0, s2, s3, s6⟩, c1⟩
    · have hq : tp_findF (tp_pQ σ) 400 0 = none := tp_findF_no (fun i hi => by
        cases h : tp_pQ σ i with
        | false => rfl
        | true =>
          rw [tp_pQ, Bool.and_eq_true, Option.isSome_iff_exists] at h
          obtain ⟨_, e, he⟩ := h
          obtain ⟨_, q1, q2, _⟩ := tp_findF_some he
          obtain ⟨_, _, hs, hfr, hr⟩ := tp_pR_iff.mp q2
          rw [hall e (by omega) hs hfr, h1] at hr; cases hr)
      refine .inl ⟨fun i hi _ e he _ hs hfr => by rw [hall e he hs hfr]; exact h1, ?_, by rw [hq]; rfl⟩
      show (fC_makeRoomBeside σ (σ 4 c)).bind _ = _
      rw [h4, b1]; rfl
    · have hfD : tp_findF (tp_pR σ c (-1)) 12 0 = some D := tp_findF_is hD (tp_pR_iff.mpr ⟨tp_nI_m (by omega), by rw [tp_oN_1 h4 h5 hD hD]; exact decide_eq_true rfl, hsw.1, hsw.2, by rw [h1]; rfl⟩) (fun e he => by
        rw [tp_pR, tp_oN_1 h4 h5 hD (by omega), decide_eq_false (show ¬ e = D from by omega), Bool.false_and, Bool.and_false])
      have hq : tp_findF (tp_pQ σ) 400 0 = some c := tp_findF_is hc (by rw [tp_pQ, k2.1, hfD]; rfl) (fun i hi => by
        cases h : tp_pQ σ i with
        | false => rfl
        | true => have := k3 i (by omega) hi; rw [hp i (by omega) h] at this; cases this)
      have hcc : c ≠ c' := fun z => by
        rw [← z, tp_oN_1 h4 h5 hD hD, decide_eq_true rfl] at oo; cases oo
      have haD : a ≠ D := fun z => by rw [z, oo] at oa; cases oa
      have oc : ∀ e, e < 12 → tp_oN σ' c e = tp_oN σ c e := fun e he => by rw [o1 c e he, tp_mvO, if_neg hcc]
      obtain ⟨m1, m2⟩ := tp_mu_room I I1 hc' ha hD oa oo hs' hsw.1 o1 s2
      have ca := c1 a ha
      rw [decide_eq_true rfl, decide_eq_false haD, show (true).toNat = 1 from rfl, show (false).toNat = 0 from rfl] at ca
      refine .inr ⟨σ', τ', ?_, ?_, I1, R1, t0, m1, ⟨c, hc, by rw [m2 c hc]; exact k2.1, ?_⟩, c, hc, k2.1⟩
      · show (fC_makeRoomBeside σ (σ 4 c)).bind _ = _
        rw [h4, b1, Option.bind_some]
        show (if tp_nI a = -1 then _ else _) = _
        rw [if_neg (tp_nI_m (by omega))]
      · rw [hq]
        show fM_roomFor τ (tp_nI c) (-1) = _
        rw [tp_M_rf I R hc, hfD]
        show (fM_makeRoom τ (tp_nI D)).bind _ = _
        rw [b2]; rfl
      · refine tp_tk_of ha ?_ ?_ (tp_fr_room (D := D) I1 ha s0 (by omega) (I.pl ha).2.2)
        · rw [oc a ha, tp_oN_1 h4 h5 hD ha]; exact decide_eq_false haD
        · rw [tp_sy_iff, s0, s2]; exact tp_sy_iff.mp hs'
theorem tp_ot_on {σ : tp_St} {c d e : Nat} (hV : tp_VV (σ 4 c) (σ 5 c)) (hd : d < 12) (he : e < 12) (ho : tp_oN σ c d = true) (hne : e ≠ d) : tp_oN σ c e = decide (tp_ot σ c d = tp_nI e) := by
  have k := (tp_ot_V hV hd ho).2.2 e he
  rw [decide_eq_false (tp_nI_m' (i := e) (by omega)), Bool.or_false, decide_eq_false hne, Bool.not_false, Bool.and_true] at k
  exact k.symm
theorem tp_ot_D {σ : tp_St} {c d : Nat} (hV : tp_VV (σ 4 c) (σ 5 c)) : tp_DD (tp_ot σ c d) := by
  unfold tp_ot
  by_cases z : σ 4 c = tp_nI d
  · rw [if_pos z]; exact hV.g
  · rw [if_neg z]; exact hV.l
theorem tp_qBO3 {σ : tp_St} {c d : Nat} (I : tp_Inv σ) (hc : c < 400) (hd : d < 12) (hl : σ 2 d ≠ 0) (ho : tp_oN σ c d = true) : tp_eM (tp_qB σ (tp_ot σ c d)) (tp_fr σ) 12 = tp_eM (tp_qO σ c) (tp_fr σ) 12 :=
  tp_eM_congr (fun e he => by
    rw [tp_qB, tp_qO]
    cases hs : tp_sy σ e with
    | false => rw [Bool.and_false, Bool.and_false]
    | true =>
      have hne : e ≠ d := fun z => hl (by rw [← z]; exact (tp_sy_iff.mp hs).2)
      rw [tp_ot_on (I.vv hc) hd he ho hne]
      congr 1
      by_cases z : tp_ot σ c d = tp_nI e
      · rw [decide_eq_true z, decide_eq_false (fun w => w z.symm)]; rfl
      · rw [decide_eq_false z, decide_eq_true (show tp_nI e ≠ tp_ot σ c d from fun w => z w.symm)]; rfl)
def tp_pF (σ : tp_St) (d c : Nat) : Bool := tp_oN σ c d && tp_tk σ c
theorem tp_C_offd {σ : tp_St} (I : tp_Inv σ) {d : Nat} (hd : d < 12) (hl : σ 2 d ≠ 0) : fC_moveOneOffDisk σ (tp_nI d) = (tp_findF (tp_pF σ d) 400 0).elim (some (0, σ)) (fun c => (fC_moveCopy σ (tp_nI c) (tp_nI d) (tp_enc (tp_eM (tp_qO σ c) (tp_fr σ) 12))).bind fun q => some (1, q)) := by
  refine tp_find_loop0 (F := fun n x => fC_moveOneOffDisk_L2 (tp_nI d) n x σ) (N := 400) ?_ ?_
  · show fC_moveOneOffDisk_L2 (tp_nI d) 1 (tp_nI 400) σ = _
    rw [fC_moveOneOffDisk_L2, if_pos (by decide)]
  · intro n i hi
    show fC_moveOneOffDisk_L2 (tp_nI d) (n + 1) (tp_nI i) σ = _
    rw [fC_moveOneOffDisk_L2, if_neg (tp_g4 hi), tp_C_isOn' hi d, Option.bind_some, tp_if_bI, tp_C_other hi, Option.bind_some, tp_C_emp, Option.bind_some, tp_pF]
    cases ho : tp_oN σ i d with
    | false => rfl
    | true =>
      rw [if_pos rfl, tp_qBO3 I hi hd hl ho, Bool.true_and, tp_tk]
      cases he : tp_eM (tp_qO σ i) (tp_fr σ) 12 with
      | none => rfl
      | some e =>
        show (if tp_nI e = -1 then _ else _) = _
        rw [if_neg (tp_nI_m (by have := tp_eM_12 (Nat.le_refl _) he; omega))]; rfl
theorem tp_off_move {σ τ : tp_St} (I : tp_Inv σ) (R : tp_Rel tp_noX σ τ) {d c : Nat} (hd : d < 12) (hc : c < 400) (hl : σ 2 d ≠ 0) (h : tp_pF σ d c = true) :
    ∃ e σ' τ', tp_eM (tp_qO σ c) (tp_fr σ) 12 = some e ∧ e < 12 ∧ fC_moveCopy σ (tp_nI c) (tp_nI d) (tp_nI e) = some σ' ∧ τ' = tp_up τ 4 c (τ 4 c - 1 <<< (tp_nI d &&& 31) + 1 <<< (tp_nI e &&& 31)) ∧ tp_Inv σ' ∧ tp_Rel (fun x => x = d) σ' τ' ∧ tp_mu σ' < tp_mu σ := by
  rw [tp_pF, Bool.and_eq_true] at h
  obtain ⟨e, he, h1, h2, h3, h4⟩ := tp_tk_some h.2
  obtain ⟨σ', r1, I1, o1, ⟨s3, s6, s7⟩, se, sa, c1, R1⟩ := tp_move_spec I hc hd h1 h.1 h2 ((tp_fr_pos I h1).mp h4)
  refine ⟨e, σ', _, he, h1, r1, rfl, I1, ?_, ?_⟩
  · rw [tp_bt_n hd, tp_bt_n h1]
    exact R1 _ τ (R.mono (fun _ _ z => z.elim)) (fun _ => rfl)
  · have hed : e ≠ d := fun z => by rw [z, h.1] at h2; cases h2
    have h2e : σ 2 e = 0 := (tp_sy_iff.mp h3).2
    have fl : ∀ i x, i < 400 → x < 12 → (tp_oN σ' i x && decide (σ' 2 x ≠ 0)) = (tp_oN σ' i x && decide (σ 2 x ≠ 0)) := fun i x hi hx => by
      by_cases z : x = d
      · rcases sa with w | w
        · rw [z, w.2]
        · have h0 : tp_cn σ' d = 0 := by
            obtain ⟨P, i1, i2, i3⟩ := I1.1 d hd
            rw [w.2.1] at i2
            have := (tp_nI_0 (by omega)).mp i2.symm
            omega
          have : tp_oN σ' i d = false := by
            have this : (tp_oN σ' i d).toNat = 0 := tp_sumF_zero h0 i hi
            cases hh : tp_oN σ' i d with
            | false => rfl
            | true => rw [hh] at this; cases this
          rw [z, this]; rfl
      · rw [(se x z).2]
    have kn : ∀ i, i < 400 → tp_nc σ' i = tp_nc σ i := fun i hi => by
      rw [← tp_nc_cnt (I1.vv hi), ← tp_nc_cnt (I.vv hi)]
      by_cases z : i = c
      · rw [z, show tp_cntF (fun x => tp_oN σ' c x) 12 = tp_cntF (fun x => (tp_oN σ c x && !decide (x = d)) || decide (x = e)) 12 from tp_cntF_congr (fun x hx => by rw [o1 c x hx, tp_mvO, if_pos rfl])]
        exact tp_mv_cnt hd h1 h.1 h2
      · exact tp_cntF_congr (fun x hx => by rw [o1 i x hx, tp_mvO, if_neg z])
    have kw : ∀ i, i < 400 → i ≠ c → tp_wt σ' i = tp_wt σ i := fun i hi hne => by
      unfold tp_wt
      rw [tp_dg, tp_dg, kn i hi]
      congr 1
      refine tp_cntF_congr (fun x hx => ?_)
      rw [fl i x hi hx, o1 i x hx, tp_mvO, if_neg hne]
    have k := tp_sumF_upd (f := tp_wt σ') (g := tp_wt σ) (c := c) (n := 400) hc kw
    have q : tp_sumF (fun x => (tp_oN σ' c x && decide (σ' 2 x ≠ 0)).toNat) 12 + (tp_oN σ c d && decide (σ 2 d ≠ 0)).toNat = tp_sumF (fun x => (tp_oN σ c x && decide (σ 2 x ≠ 0)).toNat) 12 + (tp_oN σ' c d && decide (σ' 2 d ≠ 0)).toNat := tp_sumF_upd (f := fun x => (tp_oN σ' c x && decide (σ' 2 x ≠ 0)).toNat) (g := fun x => (tp_oN σ c x && decide (σ 2 x ≠ 0)).toNat) (c := d) (n := 12) hd (fun x hx hne => by
      show (tp_oN σ' c x && decide (σ' 2 x ≠ 0)).toNat = _
      rw [fl c x hc hx, o1 c x hx, tp_mvO, if_pos rfl, decide_eq_false hne, Bool.not_false, Bool.and_true]
      by_cases z : x = e
      · rw [z, h2e, decide_eq_false (fun v : (0 : Int32) ≠ 0 => v rfl), Bool.and_false, Bool.and_false]
      · rw [decide_eq_false z, Bool.or_false])
    have q1 : (tp_oN σ' c d && decide (σ' 2 d ≠ 0)).toNat = 0 := by
      rw [o1 c d hd, tp_mvO, if_pos rfl, decide_eq_true (rfl : d = d), decide_eq_false (fun z => hed z.symm), Bool.not_true, Bool.and_false]; rfl
    have q2 : (tp_oN σ c d && decide (σ 2 d ≠ 0)).toNat = 1 := by rw [h.1, decide_eq_true hl]; rfl
    have w1 : tp_wt σ c = (tp_dg σ c).toNat + tp_sumF (fun x => (tp_oN σ c x && decide (σ 2 x ≠ 0)).toNat) 12 := rfl
    have w2 : tp_wt σ' c = (tp_dg σ c).toNat + tp_sumF (fun x => (tp_oN σ' c x && decide (σ' 2 x ≠ 0)).toNat) 12 := by
      show (tp_dg σ' c).toNat + _ = _
      rw [show tp_dg σ' c = tp_dg σ c from by rw [tp_dg, tp_dg, kn c hc]]
    rw [q1, q2] at q
    unfold tp_mu
    omega
def tp_pG (σ : tp_St) (d : Nat) : Bool := decide (σ 2 d ≠ 0) && (tp_findF (tp_pF σ d) 400 0).isSome
theorem tp_C_off {σ τ : tp_St} (I : tp_Inv σ) (R : tp_Rel tp_noX σ τ) : fC_moveOneOff σ = (tp_findF (tp_pG σ) 12 0).elim (some (0, σ)) (fun d => fC_moveOneOffDisk σ (tp_nI d)) := by
  refine tp_find_loop0 (F := fun n x => fC_moveOneOff_L2 n x σ) (N := 12) ?_ ?_
  · show fC_moveOneOff_L2 1 (tp_nI 12) σ = _
    rw [fC_moveOneOff_L2, if_pos (by decide)]
  · intro n i hi
    show fC_moveOneOff_L2 (n + 1) (tp_nI i) σ = _
    rw [fC_moveOneOff_L2, if_neg (tp_gd hi), if_neg (tp_bd hi), tp_td hi, tp_pG]
    by_cases y : σ 2 i = 0
    · rw [if_pos y, decide_eq_false (fun z => z y)]; rfl
    · rw [if_neg y, decide_eq_true y, tp_C_offd I hi y, Bool.true_and]
      cases hf : tp_findF (tp_pF σ i) 400 0 with
      | none => rfl
      | some c =>
        obtain ⟨_, k1, k2, _⟩ := tp_findF_some hf
        obtain ⟨e, σ', τ', a1, a2, a3, _⟩ := tp_off_move I R hi (by omega) y k2
        show ((fC_moveCopy σ (tp_nI c) (tp_nI i) (tp_enc (tp_eM (tp_qO σ c) (tp_fr σ) 12))).bind fun q => some (1, q)).bind _ = (fC_moveCopy σ (tp_nI c) (tp_nI i) (tp_enc (tp_eM (tp_qO σ c) (tp_fr σ) 12))).bind fun q => some (1, q)
        rw [a1]
        show ((fC_moveCopy σ (tp_nI c) (tp_nI i) (tp_nI e)).bind fun q => some ((1 : Int32), q)).bind _ = (fC_moveCopy σ (tp_nI c) (tp_nI i) (tp_nI e)).bind fun q => some (1, q)
        rw [a3]; rfl
theorem tp_M_lv {σ τ : tp_St} (I : tp_Inv σ) (R : tp_Rel tp_noX σ τ) {d : Nat} (hd : d < 12) : (σ 2 d = 0 → τ 1 d ≤ 0 ∨ τ 2 d = 0) ∧ (σ 2 d ≠ 0 → ¬ τ 1 d ≤ 0 ∧ ¬ τ 2 d = 0) := by
  rw [R.pl hd]
  refine ⟨fun h => ?_, fun h => ?_⟩
  · by_cases z : 0 < σ 0 d
    · exact .inr (by rw [(R.1 d hd).2 z]; exact h)
    · exact .inl (Int32.not_lt.mp z)
  · have k := I.lv hd h
    exact ⟨Int32.not_le.mpr k.1, by rw [(R.1 d hd).2 k.1]; exact h⟩
theorem tp_M_lo0 {σ τ : tp_St} (I : tp_Inv σ) (R : tp_Rel tp_noX σ τ) : fM_leaveOne τ 0 = (tp_findF (tp_pG σ) 12 0).elim (some ((0 : Int32), τ)) (fun d => (tp_findF (tp_pF σ d) 400 0).elim none (fun c => some ((1 : Int32), tp_up τ 4 c (τ 4 c - 1 <<< (tp_nI d &&& 31) + 1 <<< (tp_enc (tp_eM (tp_qO σ c) (tp_fr σ) 12) &&& 31))))) := by
  refine tp_find_loop0 (F := fun n x => fM_leaveOne_L2 0 n x τ) (N := 12) ?_ ?_
  · show fM_leaveOne_L2 0 1 (tp_nI 12) τ = _
    rw [fM_leaveOne_L2, if_pos (by decide)]
  · intro n d hd
    show fM_leaveOne_L2 0 (n + 1) (tp_nI d) τ = _
    rw [fM_leaveOne_L2, if_neg (tp_gd hd), tp_pG]
    by_cases y : σ 2 d = 0
    · rw [decide_eq_false (fun z => z y)]
      show fM_leaveOne_L10 _ 0 (tp_nI d) (400 + 1) 0 τ = _
      rw [fM_leaveOne_L10, if_neg (by decide), if_neg (tp_bd hd), tp_td hd]
      rcases (tp_M_lv I R hd).1 y with z | z
      · rw [if_pos z]; rfl
      · by_cases w : τ 1 d ≤ 0
        · rw [if_pos w]; rfl
        · rw [if_neg w, if_pos z]; rfl
    · rw [decide_eq_true y, Bool.true_and]
      obtain ⟨y1, y2⟩ := (tp_M_lv I R hd).2 y
      have inner : fM_leaveOne_L10 (fun (σ10k : tp_St) => fM_leaveOne_L2 0 n (tp_nI d + 1) σ10k) 0 (tp_nI d) 401 0 τ = (tp_findF (tp_pF σ d) 400 0).elim (fM_leaveOne_L2 0 n (tp_nI d + 1) τ) (fun c => some (1, tp_up τ 4 c (τ 4 c - 1 <<< (tp_nI d &&& 31) + 1 <<< (tp_enc (tp_eM (tp_qO σ c) (tp_fr σ) 12) &&& 31)))) := by
        refine tp_find_loop0 (F := fun n' x => fM_leaveOne_L10 (fun (σ10k : tp_St) => fM_leaveOne_L2 0 n (tp_nI d + 1) σ10k) 0 (tp_nI d) n' x τ) (N := 400) ?_ ?_
        · show fM_leaveOne_L10 _ 0 (tp_nI d) 1 (tp_nI 400) τ = _
          rw [fM_leaveOne_L10, if_pos (by decide)]
        · intro n' c hc
          show fM_leaveOne_L10 _ 0 (tp_nI d) (n' + 1) (tp_nI c) τ = _
          rw [fM_leaveOne_L10, if_neg (tp_g4 hc), if_neg (tp_bd hd), tp_td hd, if_neg y1, if_neg y2, tp_M_isOn I R hc hd, Option.bind_some, tp_if_bI, if_pos rfl, tp_M_emp2 I R hc, Option.bind_some, if_pos rfl, if_neg (tp_b4 hc), tp_t4 hc, tp_pF, tp_tk]
          cases tp_oN σ c d with
          | false => rfl
          | true =>
            cases he : tp_eM (tp_qO σ c) (tp_fr σ) 12 with
            | none => rfl
            | some e =>
              show (if tp_nI e < 0 then _ else _) = _
              rw [if_neg (tp_nI_nn (by have := tp_eM_12 (Nat.le_refl _) he; omega))]; rfl
      rw [inner]
      cases tp_findF (tp_pF σ d) 400 0 <;> rfl
theorem tp_off_sim {σ τ : tp_St} (I : tp_Inv σ) (R : tp_Rel tp_noX σ τ) :
    ((∀ d, d < 12 → σ 2 d ≠ 0 → ∀ c, c < 400 → tp_oN σ c d = true → tp_tk σ c = false) ∧ fC_moveOneOff σ = some (0, σ) ∧ fM_leaveOne τ 0 = some (0, τ)) ∨
    ∃ d σ' τ', fC_moveOneOff σ = some (1, σ') ∧ fM_leaveOne τ 0 = some (1, τ') ∧ tp_Inv σ' ∧ tp_Rel (fun x => x = d) σ' τ' ∧ τ' 0 = τ 0 ∧ tp_mu σ' < tp_mu σ := by
  rw [tp_C_off I R, tp_M_lo0 I R]
  cases hf : tp_findF (tp_pG σ) 12 0 with
  | none =>
    refine .inl ⟨fun d hd hl c hc ho => ?_, rfl, rfl⟩
    have k := tp_findF_none hf d (by omega) (by omega)
    rw [tp_pG, decide_eq_true hl, Bool.true_and] at k
    have k2 : tp_findF (tp_pF σ d) 400 0 = none := by
      cases h : tp_findF (tp_pF σ d) 400 0 with
      | none => rfl
      | some c => rw [h] at k; cases k
    have := tp_findF_none k2 c (by omega) (by omega)
    rw [tp_pF, ho, Bool.true_and] at this
    exact this
  | some d =>
    obtain ⟨_, k1, k2, _⟩ := tp_findF_some hf
    have hd : d < 12 := by omega
    rw [tp_pG, Bool.and_eq_true, decide_eq_true_eq, Option.isSome_iff_exists] at k2
    obtain ⟨hl, c, hc⟩ := k2
    obtain ⟨_, q1, q2, _⟩ := tp_findF_some hc
    obtain ⟨e, σ', τ', a1, a2, a3, a4, a5, a6, a7⟩ := tp_off_move I R hd (show c < 400 by omega) hl q2
    refine .inr ⟨d, σ', τ', ?_, ?_, a5, a6, by rw [a4]; rfl, a7⟩
    · show fC_moveOneOffDisk σ (tp_nI d) = _
      rw [tp_C_offd I hd hl, hc]
      show (fC_moveCopy σ (tp_nI c) (tp_nI d) (tp_enc (tp_eM (tp_qO σ c) (tp_fr σ) 12))).bind _ = _
      rw [a1]
      show (fC_moveCopy σ (tp_nI c) (tp_nI d) (tp_nI e)).bind _ = _
      rw [a3]; rfl
    · show (tp_findF (tp_pF σ d) 400 0).elim none _ = _
      rw [hc, a4]
      show some ((1 : Int32), tp_up τ 4 c (τ 4 c - 1 <<< (tp_nI d &&& 31) + 1 <<< (tp_enc (tp_eM (tp_qO σ c) (tp_fr σ) 12) &&& 31))) = _
      rw [a1]; rfl
def tp_pO (σ : tp_St) (d c : Nat) : Bool := tp_oN σ c d && tp_swr σ (tp_ot σ c d)
theorem tp_C_odw {σ : tp_St} (I : tp_Inv σ) {d : Nat} : fC_otherDiskWithRoom σ (tp_nI d) = some ((tp_findF (tp_pO σ d) 400 0).elim (-1) (fun c => tp_ot σ c d)) := by
  have h := tp_find_loop0 (F := fun n x => fC_otherDiskWithRoom_L2 σ (tp_nI d) n x) (N := 400) (p := tp_pO σ d) (hit := fun c => some (tp_ot σ c d)) (miss := some (-1)) (by
    show fC_otherDiskWithRoom_L2 σ (tp_nI d) 1 (tp_nI 400) = _
    rw [fC_otherDiskWithRoom_L2, if_pos (by decide)]) (fun n i hi => by
    show fC_otherDiskWithRoom_L2 σ (tp_nI d) (n + 1) (tp_nI i) = _
    rw [fC_otherDiskWithRoom_L2, if_neg (tp_g4 hi), tp_C_isOn' hi d, Option.bind_some, tp_if_bI, tp_C_other hi, Option.bind_some, tp_C_swr (tp_ot_D (I.vv hi)), Option.bind_some, tp_if_bI, Option.bind_some, tp_pO]
    cases tp_oN σ i d with
    | false => rfl
    | true => cases tp_swr σ (tp_ot σ i d) <;> rfl)
  rw [fC_otherDiskWithRoom]
  refine Eq.trans h ?_
  cases tp_findF (tp_pO σ d) 400 0 <;> rfl
def tp_pP (σ : tp_St) (d : Nat) : Bool := decide (σ 2 d ≠ 0) && (tp_findF (tp_pO σ d) 400 0).isSome
theorem tp_pO_d {σ : tp_St} (I : tp_Inv σ) {d c : Nat} (hc : c < 400) (h : tp_pO σ d c = true) : tp_oN σ c d = true ∧ ∃ D, D < 12 ∧ tp_ot σ c d = tp_nI D ∧ tp_sy σ D = true ∧ 0 < tp_fr σ D := by
  rw [tp_pO, Bool.and_eq_true] at h
  rcases tp_ot_D (d := d) (I.vv hc) with z | ⟨D, hD, z⟩
  · rw [z, tp_swr_m] at h; exact absurd h.2 (by decide)
  · rw [z, tp_swr_n hD] at h; exact ⟨h.1, D, hD, z, h.2.1, h.2.2⟩
theorem tp_C_rto {σ : tp_St} (I : tp_Inv σ) : fC_makeRoomToMoveOff σ = (tp_findF (tp_pP σ) 12 0).elim (some (0, σ)) (fun d => (tp_findF (tp_pO σ d) 400 0).elim none (fun c => (fC_makeRoomBeside σ (tp_ot σ c d)).bind fun q => if q.1 = -1 then some (0, q.2) else some (1, q.2))) := by
  refine tp_find_loop0 (F := fun n x => fC_makeRoomToMoveOff_L2 n x σ) (N := 12) ?_ ?_
  · show fC_makeRoomToMoveOff_L2 1 (tp_nI 12) σ = _
    rw [fC_makeRoomToMoveOff_L2, if_pos (by decide)]
  · intro n d hd
    show fC_makeRoomToMoveOff_L2 (n + 1) (tp_nI d) σ = _
    rw [fC_makeRoomToMoveOff_L2, if_neg (tp_gd hd), if_neg (tp_bd hd), tp_td hd, tp_C_odw I, Option.bind_some, tp_pP]
    by_cases y : σ 2 d = 0
    · rw [if_pos y, decide_eq_false (fun z => z y)]; rfl
    · rw [if_neg y, decide_eq_true y, Bool.true_and]
      cases hf : tp_findF (tp_pO σ d) 400 0 with
      | none => rfl
      | some c =>
        obtain ⟨_, k1, k2, _⟩ := tp_findF_some hf
        obtain ⟨_, D, hD, e, _⟩ := tp_pO_d I (show c < 400 by omega) k2
        show (if tp_ot σ c d = -1 then _ else _) = _
        rw [if_neg (by rw [e]; exact tp_nI_m (by omega))]; rfl
def tp_pS (σ : tp_St) (d c : Nat) : Bool := tp_oN σ c d && (tp_findF (tp_pR σ c (tp_nI d)) 12 0).isSome
def tp_pT (σ : tp_St) (d : Nat) : Bool := decide (σ 2 d ≠ 0) && (tp_findF (tp_pS σ d) 400 0).isSome
theorem tp_M_rf1 {σ τ : tp_St} (I : tp_Inv σ) (R : tp_Rel tp_noX σ τ) {c : Nat} (hc : c < 400) {x : Int32} {e : Nat} (hf : tp_findF (tp_pR σ c x) 12 0 = some e) : ∃ τ', fM_roomFor τ (tp_nI c) x = some (1, τ') := by
  obtain ⟨_, k1, k2, _⟩ := tp_findF_some hf
  obtain ⟨_, _, _, hfr, hr⟩ := tp_pR_iff.mp k2
  rw [tp_M_rf I R hc, hf]
  rcases tp_room_sim I R (show e < 12 by omega) ((tp_fr_pos I (by omega)).mp hfr) with ⟨h1, _⟩ | ⟨c', a, σ', τ', hc', ha, h1, oa, oo, hs', b1, b2, _⟩
  · rw [h1] at hr; cases hr
  · exact ⟨τ', by show (fM_makeRoom τ (tp_nI e)).bind _ = _; rw [b2]; rfl⟩
theorem tp_M_lo1 {σ τ : tp_St} (I : tp_Inv σ) (R : tp_Rel tp_noX σ τ) : fM_leaveOne τ 1 = (tp_findF (tp_pT σ) 12 0).elim (some (0, τ)) (fun d => (tp_findF (tp_pS σ d) 400 0).elim none (fun c => fM_roomFor τ (tp_nI c) (tp_nI d))) := by
  refine tp_find_loop0 (F := fun n x => fM_leaveOne_L2 1 n x τ) (N := 12) ?_ ?_
  · show fM_leaveOne_L2 1 1 (tp_nI 12) τ = _
    rw [fM_leaveOne_L2, if_pos (by decide)]
  · intro n d hd
    show fM_leaveOne_L2 1 (n + 1) (tp_nI d) τ = _
    rw [fM_leaveOne_L2, if_neg (tp_gd hd), tp_pT]
    by_cases y : σ 2 d = 0
    · rw [decide_eq_false (fun z => z y)]
      show fM_leaveOne_L10 _ 1 (tp_nI d) (400 + 1) 0 τ = _
      rw [fM_leaveOne_L10, if_neg (by decide), if_neg (tp_bd hd), tp_td hd]
      rcases (tp_M_lv I R hd).1 y with z | z
      · rw [if_pos z]; rfl
      · by_cases w : τ 1 d ≤ 0
        · rw [if_pos w]; rfl
        · rw [if_neg w, if_pos z]; rfl
    · rw [decide_eq_true y, Bool.true_and]
      obtain ⟨y1, y2⟩ := (tp_M_lv I R hd).2 y
      have inner : fM_leaveOne_L10 (fun (σ10k : tp_St) => fM_leaveOne_L2 1 n (tp_nI d + 1) σ10k) 1 (tp_nI d) 401 0 τ = (tp_findF (tp_pS σ d) 400 0).elim (fM_leaveOne_L2 1 n (tp_nI d + 1) τ) (fun c => fM_roomFor τ (tp_nI c) (tp_nI d)) := by
        refine tp_find_loop0 (F := fun n' x => fM_leaveOne_L10 (fun (σ10k : tp_St) => fM_leaveOne_L2 1 n (tp_nI d + 1) σ10k) 1 (tp_nI d) n' x τ) (N := 400) ?_ ?_
        · show fM_leaveOne_L10 _ 1 (tp_nI d) 1 (tp_nI 400) τ = _
          rw [fM_leaveOne_L10, if_pos (by decide)]
        · intro n' c hc
          show fM_leaveOne_L10 _ 1 (tp_nI d) (n' + 1) (tp_nI c) τ = _
          rw [fM_leaveOne_L10, if_neg (tp_g4 hc), if_neg (tp_bd hd), tp_td hd, if_neg y1, if_neg y2, tp_M_isOn I R hc hd, Option.bind_some, tp_if_bI, if_neg (show ¬ (1 : Int32) = 0 by decide), if_neg (show ¬ (1 : Int32) = 0 by decide), tp_pS]
          cases tp_oN σ c d with
          | false => rfl
          | true =>
            rw [if_pos rfl, Bool.true_and]
            cases hf : tp_findF (tp_pR σ c (tp_nI d)) 12 0 with
            | none => rw [tp_M_rf I R hc, hf]; rfl
            | some e =>
              obtain ⟨τ', ht⟩ := tp_M_rf1 I R hc hf
              rw [ht]; rfl
      rw [inner]
      cases tp_findF (tp_pS σ d) 400 0 <;> rfl
theorem tp_rto_sim {σ τ : tp_St} (I : tp_Inv σ) (R : tp_Rel tp_noX σ τ) (hm : ∀ c, c < 400 → tp_dg σ c = true → tp_tk σ c = false)
    (hw : ∀ c, c < 400 → tp_dg σ c = true → ∀ D, D < 12 → tp_oN σ c D = true → tp_sy σ D = true → 0 < tp_fr σ D → tp_fR σ D = none)
    (ho : ∀ d, d < 12 → σ 2 d ≠ 0 → ∀ c, c < 400 → tp_oN σ c d = true → tp_tk σ c = false) :
    (fC_makeRoomToMoveOff σ = some (0, σ) ∧ fM_leaveOne τ 1 = some (0, τ)) ∨
    ∃ σ' τ', fC_makeRoomToMoveOff σ = some (1, σ') ∧ fM_leaveOne τ 1 = some (1, τ') ∧ tp_Inv σ' ∧ tp_Rel tp_noX σ' τ' ∧ τ' 0 = τ 0 ∧ tp_mu σ' = tp_mu σ ∧ tp_g3 σ' := by
  rw [tp_C_rto I, tp_M_lo1 I R]
  have hSO : ∀ d c, d < 12 → c < 400 → tp_pS σ d c = true → tp_pO σ d c = true := fun d c hd hc h => by
    rw [tp_pS, Bool.and_eq_true, Option.isSome_iff_exists] at h
    obtain ⟨h1, e, he⟩ := h
    obtain ⟨_, k1, k2, _⟩ := tp_findF_some he
    obtain ⟨q1, q2, q3, q4, _⟩ := tp_pR_iff.mp k2
    have hed : e ≠ d := fun z => q1 (by rw [z])
    rw [tp_ot_on (I.vv hc) hd (by omega) h1 hed, decide_eq_true_eq] at q2
    rw [tp_pO, h1, q2, Bool.true_and]
    exact (tp_swr_n (by omega)).mpr ⟨q3, q4⟩
  cases hf : tp_findF (tp_pP σ) 12 0 with
  | none =>
    have hno := tp_findF_none hf
    have hq : tp_findF (tp_pT σ) 12 0 = none := tp_findF_no (fun d hd => by
      cases h : tp_pT σ d with
      | false => rfl
      | true =>
        exfalso
        rw [tp_pT, Bool.and_eq_true, Option.isSome_iff_exists] at h
        obtain ⟨h1, c, hc⟩ := h
        obtain ⟨_, k1, k2, _⟩ := tp_findF_some hc
        have k := hno d (by omega) (by omega)
        rw [tp_pP, h1, Bool.true_and] at k
        have k0 : tp_findF (tp_pO σ d) 400 0 = none := by
          cases h2 : tp_findF (tp_pO σ d) 400 0 with
          | none => rfl
          | some c => rw [h2] at k; cases k
        have := tp_findF_none k0 c (by omega) (by omega)
        rw [hSO d c hd (by omega) k2] at this
        cases this)
    exact .inl ⟨rfl, by rw [hq]; rfl⟩
  | some d =>
    obtain ⟨_, d1, d2, d3⟩ := tp_findF_some hf
    have hd : d < 12 := by omega
    rw [tp_pP, Bool.and_eq_true, decide_eq_true_eq, Option.isSome_iff_exists] at d2
    obtain ⟨hl, c, hfc⟩ := d2
    obtain ⟨_, c1', c2, c3⟩ := tp_findF_some hfc
    have hc : c < 400 := by omega
    obtain ⟨oc, D, hD, eD, sD, fD⟩ := tp_pO_d I hc c2
    have hDd : D ≠ d := fun z => hl (by rw [← z]; exact (tp_sy_iff.mp sD).2)
    have hall : ∀ e, e < 12 → tp_sy σ e = true → 0 < tp_fr σ e → e = D := fun e he hs hfr => by
      have k := tp_tk_no (ho d hd hl c hc oc) he hs hfr
      have hed : e ≠ d := fun z => hl (by rw [← z]; exact (tp_sy_iff.mp hs).2)
      rw [tp_ot_on (I.vv hc) hd he oc hed, eD, decide_eq_true_eq, tp_nI_eq (by omega) (by omega)] at k
      exact k.symm
    rcases tp_room_sim I R hD ((tp_fr_pos I hD).mp fD) with ⟨h1, b1, b2⟩ | ⟨c', a, σ', τ', hc', ha, h1, oa, oo, hs', b1, b2, I1, R1, t0, o1, ⟨s0, s2, s3, s6⟩, k1⟩
    · have hq : tp_findF (tp_pT σ) 12 0 = none := tp_findF_no (fun x hx => by
        cases h : tp_pT σ x with
        | false => rfl
        | true =>
          exfalso
          rw [tp_pT, Bool.and_eq_true, Option.isSome_iff_exists] at h
          obtain ⟨_, i, hi⟩ := h
          obtain ⟨_, q1, q2, _⟩ := tp_findF_some hi
          rw [tp_pS, Bool.and_eq_true, Option.isSome_iff_exists] at q2
          obtain ⟨_, e, he⟩ := q2
          obtain ⟨_, r1, r2, _⟩ := tp_findF_some he
          obtain ⟨_, _, hs, hfr, hr⟩ := tp_pR_iff.mp r2
          rw [hall e (by omega) hs hfr, h1] at hr; cases hr)
      refine .inl ⟨?_, by rw [hq]; rfl⟩
      show (tp_findF (tp_pO σ d) 400 0).elim none _ = _
      rw [hfc]
      show (fC_makeRoomBeside σ (tp_ot σ c d)).bind _ = _
      rw [eD, b1]; rfl
    · -- the class's candidates are the reference's
      have hfR : ∀ x i, x < 12 → i < 400 → σ 2 x ≠ 0 → tp_pO σ x i = true → tp_findF (tp_pR σ i (tp_nI x)) 12 0 = some D := fun x i hx hi hlx h => by
        obtain ⟨ox, E, hE, eE, sE, fE⟩ := tp_pO_d I hi h
        have : E = D := hall E hE sE fE
        rw [this] at eE
        have hDx : D ≠ x := fun z => hlx (by rw [← z]; exact (tp_sy_iff.mp sD).2)
        refine tp_findF_is hD (tp_pR_iff.mpr ⟨fun z => hDx ((tp_nI_eq (by omega) (by omega)).mp z), ?_, sD, fD, by rw [h1]; rfl⟩) (fun m hm => ?_)
        · rw [tp_ot_on (I.vv hi) hx hD ox hDx, eE]; exact decide_eq_true rfl
        · cases hp : tp_pR σ i (tp_nI x) m with
          | false => rfl
          | true =>
            obtain ⟨_, _, q3, q4, _⟩ := tp_pR_iff.mp hp
            have := hall m (by omega) q3 q4
            omega
      have hOS : ∀ x i, x < 12 → i < 400 → σ 2 x ≠ 0 → tp_pO σ x i = tp_pS σ x i := fun x i hx hi hlx => by
        cases h : tp_pO σ x i with
        | true => rw [tp_pS, (tp_pO_d I hi h).1, hfR x i hx hi hlx h]; rfl
        | false =>
          cases h2 : tp_pS σ x i with
          | false => rfl
          | true => rw [hSO x i hx hi h2] at h; cases h
      have hPT : ∀ x, x < 12 → tp_pP σ x = tp_pT σ x := fun x hx => by
        rw [tp_pP, tp_pT]
        by_cases z : σ 2 x = 0
        · rw [decide_eq_false (fun w => w z)]; rfl
        · rw [tp_findF_congr (p := tp_pO σ x) (q := tp_pS σ x) (fun m _ hm => hOS x m hx (by omega) z)]
      have hq : tp_findF (tp_pT σ) 12 0 = some d := by rw [← tp_findF_congr (p := tp_pP σ) (q := tp_pT σ) (fun m _ hm => hPT m (by omega))]; exact hf
      have hqc : tp_findF (tp_pS σ d) 400 0 = some c := by rw [← tp_findF_congr (p := tp_pO σ d) (q := tp_pS σ d) (fun m _ hm => hOS d m hd (by omega) hl)]; exact hfc
      have oD : tp_oN σ c D = true := by rw [tp_ot_on (I.vv hc) hd hD oc hDd, eD]; exact decide_eq_true rfl
      have hcc : c ≠ c' := fun z => by rw [← z, oD] at oo; cases oo
      have haD : a ≠ D := fun z => by rw [z, oo] at oa; cases oa
      have had : a ≠ d := fun z => hl (by rw [← z]; exact (tp_sy_iff.mp hs').2)
      have ocx : ∀ e, e < 12 → tp_oN σ' c e = tp_oN σ c e := fun e he => by rw [o1 c e he, tp_mvO, if_neg hcc]
      obtain ⟨m1, m2⟩ := tp_mu_room I I1 hc' ha hD oa oo hs' sD o1 s2
      have ca := k1 a ha
      rw [decide_eq_true rfl, decide_eq_false haD, show (true).toNat = 1 from rfl, show (false).toNat = 0 from rfl] at ca
      refine .inr ⟨σ', τ', ?_, ?_, I1, R1, t0, m1, fun i hi => ?_, d, c, hd, hc, by rw [s2]; exact hl, by rw [ocx d hd]; exact oc, ?_⟩
      · show (tp_findF (tp_pO σ d) 400 0).elim none _ = _
        rw [hfc]
        show (fC_makeRoomBeside σ (tp_ot σ c d)).bind _ = _
        rw [eD, b1, Option.bind_some]
        show (if tp_nI a = -1 then _ else _) = _
        rw [if_neg (tp_nI_m (by omega))]
      · rw [hq]
        show (tp_findF (tp_pS σ d) 400 0).elim none _ = _
        rw [hqc]
        show fM_roomFor τ (tp_nI c) (tp_nI d) = _
        rw [tp_M_rf I R hc, hfR d c hd hc hl c2]
        show (fM_makeRoom τ (tp_nI D)).bind _ = _
        rw [b2]; rfl
      · rw [m2 i hi]
        cases hg : tp_dg σ i with
        | false => rfl
        | true =>
          exfalso
          have k := tp_tk_no (hm i hi hg) hD sD fD
          have := hw i hi hg D hD k sD fD
          rw [h1] at this; cases this
      · refine tp_tk_of ha ?_ ?_ (tp_fr_room (D := D) I1 ha s0 (by omega) (I.pl ha).2.2)
        · rw [ocx a ha, tp_ot_on (I.vv hc) hd ha oc had, eD]
          exact decide_eq_false (fun z => haD ((tp_nI_eq (by omega) (by omega)).mp z).symm)
        · rw [tp_sy_iff, s0, s2]; exact tp_sy_iff.mp hs'
theorem tp_step_sim {σ τ : tp_St} (I : tp_Inv σ) (R : tp_Rel tp_noX σ τ) : ∃ r σ' τ', fC_nextStep σ = some (r, σ') ∧ fM_doStep τ = some (r, τ') ∧ tp_Inv σ' ∧ tp_Rel tp_noX σ' τ' ∧ τ' 0 = τ 0 ∧
    (r = 0 ∨ (0 < r ∧ (tp_mu σ' < tp_mu σ ∨ (tp_mu σ' = tp_mu σ ∧ (tp_g1 σ' ∨ tp_g3 σ'))))) ∧ ((tp_g1 σ ∨ tp_g3 σ) → tp_mu σ' < tp_mu σ) := by
  rw [fC_nextStep, fM_doStep]
  rcases tp_mend_sim I R with ⟨hm, a1, a2⟩ | ⟨σ', τ', a1, a2, I1, R1, t1, m1⟩
  · rw [a1, a2, Option.bind_some, Option.bind_some]
    show ∃ r σ' τ', (if (0 : Int32) = 0 then _ else _) = _ ∧ (if (0 : Int32) = 0 then _ else _) = _ ∧ _
    rw [if_pos rfl, if_pos rfl]
    have ng1 : ¬ tp_g1 σ := fun ⟨c, hc, h1, h2⟩ => by rw [hm c hc h1] at h2; cases h2
    rcases tp_rtm_sim I R hm with ⟨hw, b1, b2⟩ | ⟨σ', τ', b1, b2, I1, R1, t1, m1, hg, c0, hc0, hg0⟩
    · rw [b1, b2, Option.bind_some, Option.bind_some]
      show ∃ r σ' τ', (if (0 : Int32) = 0 then _ else _) = _ ∧ (if (0 : Int32) = 0 then _ else _) = _ ∧ _
      rw [if_pos rfl, if_pos rfl]
      rcases tp_off_sim I R with ⟨ho, c1, c2⟩ | ⟨d, σ', τ', c1, c2, I1, R1, t1, m1⟩
      · rw [c1, c2, Option.bind_some, Option.bind_some]
        show ∃ r σ' τ', (if (0 : Int32) = 0 then _ else _) = _ ∧ (if (0 : Int32) = 0 then _ else _) = _ ∧ _
        rw [if_pos rfl, if_pos rfl]
        have ng3 : ¬ tp_g3 σ := fun ⟨_, d, c, hd, hc, h1, h2, h3⟩ => by rw [ho d hd h1 c hc h2] at h3; cases h3
        rcases tp_rto_sim I R hm hw ho with ⟨d1, d2⟩ | ⟨σ', τ', d1, d2, I1, R1, t1, m1, hg⟩
        · obtain ⟨τ', e1, e2, e3⟩ := tp_M_tidy I R
          refine ⟨0, σ, τ', ?_, ?_, I, e2, e3, .inl rfl, fun z => (z.elim ng1 ng3).elim⟩
          · rw [d1]; rfl
          · rw [d2, Option.bind_some]
            show (if (0 : Int32) = 0 then _ else _) = _
            rw [if_pos rfl, e1]; rfl
        · obtain ⟨τ2, e1, e2, e3⟩ := tp_M_tidy I1 R1
          refine ⟨4, σ', τ2, ?_, ?_, I1, e2, by rw [e3]; exact t1, .inr ⟨by decide, .inr ⟨m1, .inr hg⟩⟩, fun z => (z.elim ng1 ng3).elim⟩
          · rw [d1]; rfl
          · rw [d2, Option.bind_some]
            show (if (1 : Int32) = 0 then _ else _) = _
            rw [if_neg (by decide), e1]; rfl
      · obtain ⟨τ2, e1, e2, e3⟩ := tp_M_tidy I1 R1
        refine ⟨3, σ', τ2, ?_, ?_, I1, e2, by rw [e3]; exact t1, .inr ⟨by decide, .inl m1⟩, fun _ => m1⟩
        · rw [c1]; rfl
        · rw [c2, Option.bind_some]
          show (if (1 : Int32) = 0 then _ else _) = _
          rw [if_neg (by decide), e1]; rfl
    · obtain ⟨τ2, e1, e2, e3⟩ := tp_M_tidy I1 R1
      have ng3 : ¬ tp_g3 σ := fun ⟨h, _⟩ => by rw [h c0 hc0] at hg0; cases hg0
      refine ⟨2, σ', τ2, ?_, ?_, I1, e2, by rw [e3]; exact t1, .inr ⟨by decide, .inr ⟨m1, .inl hg⟩⟩, fun z => (z.elim ng1 ng3).elim⟩
      · rw [b1]; rfl
      · rw [b2, Option.bind_some]
        show (if (1 : Int32) = 0 then _ else _) = _
        rw [if_neg (by decide), e1]; rfl
  · obtain ⟨τ2, e1, e2, e3⟩ := tp_M_tidy I1 R1
    refine ⟨1, σ', τ2, ?_, ?_, I1, e2, by rw [e3]; exact t1, .inr ⟨by decide, .inl m1⟩, fun _ => m1⟩
    · rw [a1]; rfl
    · rw [a2, Option.bind_some]
      show (if (1 : Int32) = 0 then _ else _) = _
      rw [if_neg (by decide), e1]; rfl
end
section
def tp_Ok (o : Option (Nat × Int32 × tp_St)) (q : Option (Int32 × tp_St)) (mp : Nat → Nat) : Prop :=
  ∃ k v σ' v' τ', o = some (k, v, σ') ∧ q = some (v', τ') ∧ tp_Inv σ' ∧ tp_Rel tp_noX σ' τ' ∧ τ' 0 0 = tp_nI (mp k) ∧ (k = 0 → v = v') ∧ k < 5
def tp_Ok0 (o : Option (Nat × Int32 × tp_St)) (q : Option tp_St) (mp : Nat → Nat) : Prop :=
  ∃ k v σ' τ', o = some (k, v, σ') ∧ q = some τ' ∧ tp_Inv σ' ∧ tp_Rel tp_noX σ' τ' ∧ τ' 0 0 = tp_nI (mp k) ∧ k < 5
def tp_mp1 (k : Nat) : Nat := if k = 0 then 0 else 1
def tp_mpI (k : Nat) : Nat := k
def tp_mpL (k : Nat) : Nat := if k = 4 then 3 else k
def tp_mpA (k : Nat) : Nat := if k = 3 then 2 else k
theorem tp_Inv.gone {σ : tp_St} (I : tp_Inv σ) {d : Nat} (hd : d < 12) (h0 : tp_cn σ d = 0) : tp_Inv (tp_gone σ d) := by
  refine ⟨fun e he => ?_, I.2.1, fun e he => ?_, I.2.2.2⟩
  · show ∃ P, P ≤ 200 ∧ (if e = d then 0 else σ 0 e) = tp_nI P ∧ tp_cn σ e ≤ P
    by_cases z : e = d
    · exact ⟨0, by omega, by rw [if_pos z]; rfl, by rw [z]; omega⟩
    · rw [if_neg z]; exact I.1 e he
  · show (if e = d then 0 else σ 2 e) = 0 ∨ ((if e = d then 0 else σ 2 e) = 1 ∧ 0 < tp_cn σ e)
    by_cases z : e = d
    · exact .inl (if_pos z)
    · rw [if_neg z]; exact I.2.2.1 e he
theorem tp_up_self {σ : tp_St} {f k : Nat} : tp_up σ f k (σ f k) = σ := by
  funext g j
  show (if g = f then upd (σ f) k (σ f k) else σ g) j = σ g j
  by_cases h : g = f
  · rw [if_pos h, h]
    show (if j = k then σ f k else σ f j) = σ f j
    by_cases e : j = k
    · rw [if_pos e, e]
    · rw [if_neg e]
  · rw [if_neg h]
theorem tp_disk_sim {σ τ : tp_St} (I : tp_Inv σ) (R : tp_Rel tp_noX σ τ) (x y : Int32) : tp_Ok0 (fC_disk σ x y) (fM_disk τ x y) tp_mpI := by
  rw [fC_disk, fM_disk]
  by_cases h1 : x < 0
  · rw [if_pos h1, if_pos h1]; exact ⟨1, 0, σ, tp_up τ 0 0 1, rfl, rfl, I, R.thrown 1, rfl, by omega⟩
  · rw [if_neg h1, if_neg h1]
    by_cases h2 : x < 12
    · rw [if_pos h2, if_pos h2]
      rcases tp_int_cases 12 (by omega) x with ⟨d, hd, e⟩ | z | z
      · rw [e, tp_C_isThere hd, Option.bind_some, tp_if_bI, if_neg (tp_bd hd), if_neg (tp_bd hd), tp_td hd, R.pl hd, tp_th]
        by_cases h3 : 0 < σ 0 d
        · rw [decide_eq_true h3, if_pos rfl, if_neg (Int32.not_le.mpr h3)]; exact ⟨2, 0, σ, tp_up τ 0 0 2, rfl, rfl, I, R.thrown 2, rfl, by omega⟩
        · rw [decide_eq_false h3, if_neg (by decide), if_pos (Int32.not_lt.mp h3)]
          by_cases h4 : y < 1
          · rw [if_pos h4, if_pos h4]; exact ⟨3, 0, σ, tp_up τ 0 0 3, rfl, rfl, I, R.thrown 3, rfl, by omega⟩
          · rw [if_neg h4, if_neg h4]
            by_cases h5 : y ≤ 200
            · rw [if_pos h5, if_pos h5, tp_vn0]
              have hP : ∃ P, P ≤ 200 ∧ y = tp_nI P := by
                rcases tp_int_cases 201 (by omega) y with ⟨P, hP, e⟩ | z | z
                · exact ⟨P, by omega, e⟩
                · exact absurd (Int32.lt_trans z (by decide : (0 : Int32) < 1)) h4
                · exact absurd (Int32.le_trans z h5) (by decide)
              obtain ⟨P, hP, eP⟩ := hP
              have p0 : σ 0 d = tp_nI 0 := by
                obtain ⟨i1, i2, i3⟩ := I.pl hd
                rw [tp_pl_pos I hd] at h3
                rw [i1, show tp_pl σ d = 0 from by omega]
              have c0 : tp_cn σ d = 0 := by
                obtain ⟨i1, i2, i3⟩ := I.pl hd
                rw [tp_pl_pos I hd] at h3
                omega
              have l0 : σ 2 d = 0 := by
                by_cases w : σ 2 d = 0
                · exact w
                · exact absurd (I.lv hd w).1 h3
              refine ⟨0, 0, tp_up σ 0 d y, tp_up (tp_up (tp_up τ 0 0 0) 1 d y) 2 d 0, rfl, rfl, ⟨fun k hk => ?_, I.2.1, I.2.2.1, I.2.2.2⟩, ⟨fun k hk => ?_, R.2⟩, rfl, by omega⟩
              · show ∃ P, P ≤ 200 ∧ (if k = d then y else σ 0 k) = tp_nI P ∧ tp_cn σ k ≤ P
                by_cases w : k = d
                · exact ⟨P, hP, by rw [if_pos w]; exact eP, by rw [w]; omega⟩
                · rw [if_neg w]; exact I.1 k hk
              · show ((if k = d then y else τ 1 k) = (if k = d then y else σ 0 k) ∨ _) ∧ (0 < (if k = d then y else σ 0 k) → (if k = d then 0 else τ 2 k) = σ 2 k)
                by_cases w : k = d
                · rw [if_pos w, if_pos w, if_pos w, w]; exact ⟨.inl rfl, fun _ => l0.symm⟩
                · rw [if_neg w, if_neg w, if_neg w]; exact ⟨.inl (R.pl hk), (R.1 k hk).2⟩
            · rw [if_neg h5, if_neg h5]; exact ⟨3, 0, σ, tp_up τ 0 0 3, rfl, rfl, I, R.thrown 3, rfl, by omega⟩
      · exact absurd z h1
      · exact absurd (Int32.lt_of_lt_of_le h2 z) Int32.lt_irrefl
    · rw [if_neg h2, if_neg h2]; exact ⟨1, 0, σ, tp_up τ 0 0 1, rfl, rfl, I, R.thrown 1, rfl, by omega⟩
theorem tp_chunk_sim {σ τ : tp_St} (I : tp_Inv σ) (R : tp_Rel tp_noX σ τ) : tp_Ok (fC_chunk σ) (fM_chunk τ) tp_mp1 := by
  rw [fC_chunk, fM_chunk]
  obtain ⟨r, σ', τ', a1, a2, I1, R1, t1, hr⟩ := tp_new_sim I R
  rw [a1, a2, Option.bind_some, Option.bind_some]
  rcases hr with ⟨hr, _⟩ | ⟨⟨c, hc, hr⟩, _⟩
  · refine ⟨4, 0, σ', 0, tp_up τ' 0 0 1, ?_, ?_, I1, R1.thrown 1, rfl, fun z => by omega, by omega⟩
    · show (if r = -1 then _ else _) = _
      rw [if_pos hr]
    · show (if 0 ≤ r then _ else (if 0 ≤ r then _ else _)) = _
      rw [hr, if_neg (by decide), if_neg (by decide)]
  · have p : 0 ≤ tp_nI c := Int32.not_lt.mp (tp_nI_nn (by omega))
    refine ⟨0, r, σ', r, tp_up τ' 0 0 0, ?_, ?_, I1, R1.thrown 0, rfl, fun _ => rfl, by omega⟩
    · show (if r = -1 then _ else _) = _
      rw [if_neg (by rw [hr]; exact tp_nI_m (by omega))]
    · show (if 0 ≤ r then (if 0 ≤ r then _ else _) else _) = _
      rw [hr, if_pos p, if_pos p]
theorem tp_al_le (σ : tp_St) : tp_al σ ≤ 400 := tp_cntF_le _ 400
theorem tp_chunks_loop {x : Int32} {M : Nat} (hM : M ≤ 400) (hx : ∀ i, i < 400 → (x ≤ tp_nI i ↔ M ≤ i)) : ∀ k i σ τ, i + k = 400 → tp_Inv σ → tp_Rel tp_noX σ τ → i ≤ tp_al σ → i ≤ M →
    ∃ r σ' τ', fC_chunks_L22 (tp_nI M) (k + 1) (tp_nI i) σ = some (0, r, σ') ∧ fM_chunks_L15 x (k + 2) (tp_nI i) τ = some (r, τ') ∧ tp_Inv σ' ∧ tp_Rel tp_noX σ' τ' ∧ τ' 0 = τ 0 := by
  intro k
  induction k with
  | zero =>
    intro i σ τ hk I R ha hi
    have e1 : i = 400 := by omega
    have e2 : M = 400 := by omega
    rw [e1, e2]
    have c1 : fC_chunks_L22 (tp_nI 400) (0 + 1) (tp_nI 400) σ = some (0, tp_nI 400, σ) := by rw [fC_chunks_L22, if_pos (Int32.le_refl _)]
    by_cases z : x ≤ tp_nI 400
    · exact ⟨tp_nI 400, σ, τ, c1, by rw [fM_chunks_L15, if_pos z], I, R, rfl⟩
    · obtain ⟨r, σ', τ', a1, a2, I1, R1, t1, hr⟩ := tp_new_sim I R
      rcases hr with ⟨hr, hs⟩ | ⟨_, hr⟩
      · rw [hs] at R1
        refine ⟨tp_nI 400, σ, τ', c1, ?_, I, R1, t1⟩
        rw [fM_chunks_L15, if_neg z, a2, Option.bind_some]
        show (if r < 0 then _ else _) = _
        rw [if_pos (by rw [hr]; decide)]
      · have := tp_al_le σ'; omega
  | succ k ih =>
    intro i σ τ hk I R ha hi
    by_cases z : M ≤ i
    · refine ⟨tp_nI i, σ, τ, ?_, ?_, I, R, rfl⟩
      · rw [fC_chunks_L22, if_pos ((tp_nI_le (by omega) (by omega)).mpr z)]
      · rw [fM_chunks_L15, if_pos ((hx i (by omega)).mpr z)]
    · obtain ⟨r, σ', τ', a1, a2, I1, R1, t1, hr⟩ := tp_new_sim I R
      rw [fC_chunks_L22, if_neg (fun w => z ((tp_nI_le (by omega) (by omega)).mp w)), a1, Option.bind_some, fM_chunks_L15, if_neg (fun w => z ((hx i (by omega)).mp w)), a2, Option.bind_some]
      rcases hr with ⟨hr, _⟩ | ⟨⟨c, hc, hr⟩, hal⟩
      · refine ⟨tp_nI i, σ', τ', ?_, ?_, I1, R1, t1⟩
        · show (if r = -1 then _ else _) = _
          rw [if_pos hr]
        · show (if r < 0 then _ else _) = _
          rw [if_pos (by rw [hr]; decide)]
      · obtain ⟨r2, σ2, τ2, b1, b2, I2, R2, t2⟩ := ih (i + 1) σ' τ' (by omega) I1 R1 (by omega) (by omega)
        refine ⟨r2, σ2, τ2, ?_, ?_, I2, R2, t2.trans t1⟩
        · show (if r = -1 then _ else _) = _
          rw [if_neg (by rw [hr]; exact tp_nI_m (by omega)), tp_nI_s]; exact b1
        · show (if r < 0 then _ else _) = _
          rw [if_neg (by rw [hr]; exact tp_nI_nn (by omega)), tp_nI_s]; exact b2
theorem tp_big {x : Int32} (h : 0 ≤ x) : ∃ N, N < 2 ^ 31 ∧ x = Int32.ofNat N := ⟨x.toNatClampNeg, x.toNatClampNeg_lt, (Int32.ofNat_toNatClampNeg x h).symm⟩
theorem tp_chunks_sim {σ τ : tp_St} (I : tp_Inv σ) (R : tp_Rel tp_noX σ τ) (x : Int32) : tp_Ok (fC_chunks σ x) (fM_chunks τ x) tp_mp1 := by
  rw [fC_chunks, fM_chunks]
  by_cases h : 0 ≤ x
  · rw [if_pos h, if_pos h]
    obtain ⟨N, hN, e⟩ := tp_big h
    have k1 : (if 400 < x then 400 else x) = tp_nI (min N 400) := by
      rw [e]
      by_cases z : 400 < N
      · rw [if_pos (show (400 : Int32) < Int32.ofNat N from (Int32.ofNat_lt_iff_lt (a := 400) (by omega) hN).mpr z), Nat.min_eq_right (by omega)]; rfl
      · rw [if_neg (show ¬ (400 : Int32) < Int32.ofNat N from fun w => z ((Int32.ofNat_lt_iff_lt (a := 400) (by omega) hN).mp w)), Nat.min_eq_left (by omega)]
    obtain ⟨r, σ', τ', a1, a2, I1, R1, t1⟩ := tp_chunks_loop (x := x) (M := min N 400) (by omega) (fun i hi => by
      rw [e, show (Int32.ofNat N ≤ tp_nI i ↔ N ≤ i) from Int32.ofNat_le_iff_le hN (by omega)]; omega) 400 0 σ (tp_up τ 0 0 0) rfl I (R.thrown 0) (by omega) (by omega)
    rw [k1]
    exact ⟨0, r, σ', r, τ', a1, a2, I1, R1, by rw [t1]; rfl, fun _ => rfl, by omega⟩
  · rw [if_neg h, if_neg h]
    have h0 : x ≤ 0 := Int32.le_of_lt (Int32.not_le.mp h)
    refine ⟨3, 0, σ, 0, tp_up τ 0 0 1, rfl, ?_, I, R.thrown 1, rfl, fun z => by omega, by omega⟩
    show fM_chunks_L15 x (401 + 1) 0 (tp_up τ 0 0 1) = _
    rw [fM_chunks_L15, if_pos h0]
theorem tp_steps_loop {x : Int32} {M : Nat} (hM : M ≤ 1000000) (hx : ∀ i, i < 1000000 → (x ≤ tp_nI i ↔ M ≤ i)) : ∀ b i n σ τ, i + b + 1 < 1000000 → b + 2 ≤ n → tp_Inv σ → tp_Rel tp_noX σ τ → (2 * tp_mu σ + 1 ≤ b ∨ (2 * tp_mu σ ≤ b ∧ (tp_g1 σ ∨ tp_g3 σ))) →
    ∃ r σ' τ', fC_steps_L21 (tp_nI M) n (tp_nI i) σ = some (0, r, σ') ∧ fM_steps_L25 x n (tp_nI i) (if x ≤ tp_nI i then 0 else 1) τ = some (r, τ') ∧ tp_Inv σ' ∧ tp_Rel tp_noX σ' τ' ∧ τ' 0 = τ 0 := by
  intro b
  induction b with
  | zero =>
    intro i n σ τ hi hn I R hb
    obtain ⟨n, rfl⟩ : ∃ m, n = m + 2 := ⟨n - 2, by omega⟩
    have hg : tp_mu σ = 0 ∧ (tp_g1 σ ∨ tp_g3 σ) := by
      rcases hb with h | h
      · omega
      · exact ⟨by omega, h.2⟩
    by_cases z : M ≤ i
    · refine ⟨tp_nI i, σ, τ, ?_, ?_, I, R, rfl⟩
      · rw [fC_steps_L21, if_pos ((tp_nI_le (by omega) (by omega)).mpr z)]
      · rw [if_pos ((hx i (by omega)).mpr z), fM_steps_L25, if_pos rfl]
    · obtain ⟨r, σ', τ', a1, a2, I1, R1, t1, hr, hgm⟩ := tp_step_sim I R
      have := hgm hg.2
      omega
  | succ b ih =>
    intro i n σ τ hi hn I R hb
    obtain ⟨n, rfl⟩ : ∃ m, n = m + 2 := ⟨n - 2, by omega⟩
    by_cases z : M ≤ i
    · refine ⟨tp_nI i, σ, τ, ?_, ?_, I, R, rfl⟩
      · rw [fC_steps_L21, if_pos ((tp_nI_le (by omega) (by omega)).mpr z)]
      · rw [if_pos ((hx i (by omega)).mpr z), fM_steps_L25, if_pos rfl]
    · obtain ⟨r, σ', τ', a1, a2, I1, R1, t1, hr, hgm⟩ := tp_step_sim I R
      rw [fC_steps_L21, if_neg (fun w => z ((tp_nI_le (by omega) (by omega)).mp w)), a1, Option.bind_some, if_neg (fun w => z ((hx i (by omega)).mp w)), fM_steps_L25, if_neg (show ¬ (1 : Int32) = 0 by decide), a2, Option.bind_some]
      rcases hr with hr | ⟨hr, hmu⟩
      · refine ⟨tp_nI i, σ', τ', ?_, ?_, I1, R1, t1⟩
        · show (if r = 0 then _ else _) = _
          rw [if_pos hr]
        · show (if r ≤ 0 then _ else _) = _
          rw [if_pos (by rw [hr]; decide)]
          show fM_steps_L25 x (n + 1) (tp_nI i) 0 τ' = _
          rw [fM_steps_L25, if_pos rfl]
      · have hb' : 2 * tp_mu σ' + 1 ≤ b ∨ (2 * tp_mu σ' ≤ b ∧ (tp_g1 σ' ∨ tp_g3 σ')) := by
          rcases hmu with h | ⟨h, hg⟩
          · left
            rcases hb with h1 | h1 <;> omega
          · right
            refine ⟨?_, hg⟩
            rcases hb with h1 | ⟨h1, h2⟩
            · omega
            · have := hgm h2; omega
        obtain ⟨r2, σ2, τ2, b1, b2, I2, R2, t2⟩ := ih (i + 1) (n + 1) σ' τ' (by omega) (by omega) I1 R1 hb'
        refine ⟨r2, σ2, τ2, ?_, ?_, I2, R2, t2.trans t1⟩
        · show (if r = 0 then _ else _) = _
          rw [if_neg (fun w => by rw [w] at hr; exact absurd hr (by decide)), tp_nI_s]; exact b1
        · show (if r ≤ 0 then _ else (if x ≤ tp_nI i + 1 then _ else _)) = _
          rw [if_neg (Int32.not_le.mpr hr), tp_nI_s]
          by_cases w : x ≤ tp_nI (i + 1)
          · rw [if_pos w]; rw [if_pos w] at b2; exact b2
          · rw [if_neg w]; rw [if_neg w] at b2; exact b2
theorem tp_steps_sim {σ τ : tp_St} (I : tp_Inv σ) (R : tp_Rel tp_noX σ τ) (x : Int32) : tp_Ok (fC_steps σ x) (fM_steps τ x) tp_mp1 := by
  rw [fC_steps, fM_steps]
  by_cases h : 0 ≤ x
  · rw [if_pos h, if_pos h]
    obtain ⟨N, hN, e⟩ := tp_big h
    have k1 : (if 1000000 < x then 1000000 else x) = tp_nI (min N 1000000) := by
      rw [e]
      by_cases z : 1000000 < N
      · rw [if_pos (show (1000000 : Int32) < Int32.ofNat N from (Int32.ofNat_lt_iff_lt (a := 1000000) (by omega) hN).mpr z), Nat.min_eq_right (by omega)]; rfl
      · rw [if_neg (show ¬ (1000000 : Int32) < Int32.ofNat N from fun w => z ((Int32.ofNat_lt_iff_lt (a := 1000000) (by omega) hN).mp w)), Nat.min_eq_left (by omega)]
    have hm := tp_mu_le σ
    obtain ⟨r, σ', τ', a1, a2, I1, R1, t1⟩ := tp_steps_loop (x := x) (M := min N 1000000) (by omega) (fun i hi => by
      rw [e, show (Int32.ofNat N ≤ tp_nI i ↔ N ≤ i) from Int32.ofNat_le_iff_le hN (by omega)]; omega) 10401 0 1000001 σ (tp_up τ 0 0 0) (by omega) (by omega) I (R.thrown 0) (.inl (by omega))
    rw [k1]
    refine ⟨0, r, σ', r, τ', a1, ?_, I1, R1, by rw [t1]; rfl, fun _ => rfl, by omega⟩
    rw [← a2]
    by_cases w : x ≤ 0
    · rw [if_pos w]
      show _ = fM_steps_L25 x 1000001 (tp_nI 0) (if x ≤ (0 : Int32) then 0 else 1) (tp_up τ 0 0 0)
      rw [if_pos w]; rfl
    · rw [if_neg w]
      show _ = fM_steps_L25 x 1000001 (tp_nI 0) (if x ≤ (0 : Int32) then 0 else 1) (tp_up τ 0 0 0)
      rw [if_neg w]; rfl
  · rw [if_neg h, if_neg h]
    have h0 : x ≤ 0 := Int32.le_of_lt (Int32.not_le.mp h)
    refine ⟨3, 0, σ, 0, tp_up τ 0 0 1, rfl, ?_, I, R.thrown 1, rfl, fun z => by omega, by omega⟩
    rw [if_pos h0]
    show fM_steps_L25 x (1000000 + 1) 0 0 (tp_up τ 0 0 1) = _
    rw [fM_steps_L25, if_pos rfl]
theorem tp_mk_0 {l g : Int32} (h : tp_VV l g) : tp_mK l g = 0 ↔ l = -1 := by
  rcases h with ⟨h1, h2⟩ | ⟨a, ha, h1, h2⟩ | ⟨a, b, hab, hb, h1, h2⟩
  · rw [h1, h2]; exact ⟨fun _ => rfl, fun _ => tp_mk_z⟩
  · rw [h1, h2]; exact ⟨fun z => absurd z (tp_mk_n1 a ha), fun z => absurd z (tp_nI_m (by omega))⟩
  · rw [h1, h2]; exact ⟨fun z => absurd z (tp_mk_n2 a (by omega) b hb hab), fun z => absurd z (tp_nI_m (by omega))⟩
theorem tp_nc_0 {σ : tp_St} {c : Nat} : tp_nc σ c = 0 ↔ σ 4 c = -1 := by
  unfold tp_nc
  by_cases y : σ 4 c = -1
  · rw [if_pos y]; exact ⟨fun _ => y, fun _ => rfl⟩
  · rw [if_neg y]
    by_cases z : σ 5 c = -1
    · rw [if_pos z]; exact ⟨fun w => by omega, fun w => absurd w y⟩
    · rw [if_neg z]; exact ⟨fun w => by omega, fun w => absurd w y⟩
theorem tp_lt43 {y : Int32} (h : ¬ y < 0) (h4 : y < 4) : ∃ i, i < 4 ∧ y = tp_nI i := by
  rcases tp_int_cases 4 (by omega) y with z | z | z
  · exact z
  · exact absurd z h
  · exact absurd (Int32.lt_of_lt_of_le h4 z) Int32.lt_irrefl
theorem tp_le3_iff {y : Int32} (h : ¬ y < 0) : y ≤ 3 ↔ y < 4 := by
  constructor
  · intro z; exact Int32.lt_of_le_of_lt z (by decide)
  · intro z
    obtain ⟨i, hi, e⟩ := tp_lt43 h z
    rw [e]; exact (tp_nI_le (j := 3) (by omega) (by omega)).mpr (by omega)
theorem tp_write_sim {σ τ : tp_St} (I : tp_Inv σ) (R : tp_Rel tp_noX σ τ) (x y w : Int32) : tp_Ok0 (fC_write σ x y w) (fM_write τ x y w) tp_mpI := by
  have hno : ∀ (b1 : fC_isChunk σ x = some 0) (b2 : fM_isChunk τ x = some 0), tp_Ok0 (fC_write σ x y w) (fM_write τ x y w) tp_mpI := fun b1 b2 =>
    ⟨1, 0, σ, tp_up τ 0 0 1, by rw [fC_write, b1]; rfl, by rw [fM_write, b2]; rfl, I, R.thrown 1, rfl, by omega⟩
  rcases tp_int_cases 400 (by omega) x with ⟨c, hc, e⟩ | z | z
  · by_cases h3 : σ 3 c = 0
    · exact hno (by rw [e, tp_C_isChunk hc, h3]; rfl) (by rw [e, tp_M_isChunk R hc, h3]; rfl)
    · rw [fC_write, fM_write, e, tp_C_isChunk hc, tp_M_isChunk R hc, Option.bind_some, Option.bind_some, decide_eq_true h3, tp_if_bI, tp_if_bI, if_pos rfl, if_pos rfl]
      by_cases h1 : y < 0
      · rw [if_pos h1, if_pos h1]; exact ⟨1, 0, σ, tp_up τ 0 0 1, rfl, rfl, I, R.thrown 1, rfl, by omega⟩
      · rw [if_neg h1, if_neg h1]
        by_cases h4 : y < 4
        · obtain ⟨i, hi, ei⟩ := tp_lt43 h1 h4
          rw [if_pos h4, if_pos ((tp_le3_iff h1).mpr h4), tp_C_copies hc, Option.bind_some, if_neg (tp_b4 hc), tp_t4 hc, R.cp hc, ei, tp_ix_C, tp_ix_M, if_neg (tp_bw (by omega)), if_neg (tp_bw (by omega)), tp_nI_t (by omega)]
          by_cases h5 : σ 4 c = -1
          · rw [tp_nc_0.mpr h5, if_pos (show tp_nI 0 = 0 from rfl), if_pos ((tp_mk_0 (I.vv hc)).mpr h5)]; exact ⟨2, 0, σ, tp_up τ 0 0 2, rfl, rfl, I, R.thrown 2, rfl, by omega⟩
          · rw [if_neg (fun v => h5 (tp_nc_0.mp ((tp_nI_0 (by have := tp_nc_lt σ c; omega)).mp v))), if_neg (fun v => h5 ((tp_mk_0 (I.vv hc)).mp v))]
            refine ⟨0, 0, tp_up σ 6 (4 * c + i) w, tp_up (tp_up τ 0 0 0) 5 (4 * c + i) w, rfl, rfl, I, ⟨R.1, R.2.1, fun k hk => ?_, R.2.2.2⟩, rfl, by omega⟩
            show (if k = 4 * c + i then w else τ 5 k) = if k = 4 * c + i then w else σ 6 k
            rw [R.2.2.1 k hk]
        · rw [if_neg h4, if_neg (fun v => h4 ((tp_le3_iff h1).mp v))]; exact ⟨1, 0, σ, tp_up τ 0 0 1, rfl, rfl, I, R.thrown 1, rfl, by omega⟩
  · exact hno (tp_C_isChunk_o (.inl z)) (tp_M_isChunk_o (.inl z))
  · exact hno (tp_C_isChunk_o (.inr z)) (tp_M_isChunk_o (.inr z))
theorem tp_read_sim {σ τ : tp_St} (I : tp_Inv σ) (R : tp_Rel tp_noX σ τ) (x y : Int32) : tp_Ok (fC_read σ x y) (fM_read τ x y) tp_mpI := by
  have hno : ∀ (b1 : fC_isChunk σ x = some 0) (b2 : fM_isChunk τ x = some 0), tp_Ok (fC_read σ x y) (fM_read τ x y) tp_mpI := fun b1 b2 =>
    ⟨1, 0, σ, 0, tp_up τ 0 0 1, by rw [fC_read, b1]; rfl, by rw [fM_read, b2]; rfl, I, R.thrown 1, rfl, fun z => by omega, by omega⟩
  rcases tp_int_cases 400 (by omega) x with ⟨c, hc, e⟩ | z | z
  · by_cases h3 : σ 3 c = 0
    · exact hno (by rw [e, tp_C_isChunk hc, h3]; rfl) (by rw [e, tp_M_isChunk R hc, h3]; rfl)
    · rw [fC_read, fM_read, e, tp_C_isChunk hc, tp_M_isChunk R hc, Option.bind_some, Option.bind_some, decide_eq_true h3, tp_if_bI, tp_if_bI, if_pos rfl, if_pos rfl]
      by_cases h1 : y < 0
      · rw [if_pos h1, if_pos h1]; exact ⟨1, 0, σ, 0, tp_up τ 0 0 1, rfl, rfl, I, R.thrown 1, rfl, fun z => by omega, by omega⟩
      · rw [if_neg h1, if_neg h1]
        by_cases h4 : y < 4
        · obtain ⟨i, hi, ei⟩ := tp_lt43 h1 h4
          rw [if_pos h4, if_pos ((tp_le3_iff h1).mpr h4), tp_C_copies hc, Option.bind_some, if_neg (tp_b4 hc), tp_t4 hc, R.cp hc, ei, tp_ix_C, tp_ix_M, if_neg (tp_bw (by omega)), if_neg (tp_bw (by omega)), tp_nI_t (by omega)]
          by_cases h5 : σ 4 c = -1
          · rw [tp_nc_0.mpr h5, if_pos (show tp_nI 0 = 0 from rfl), if_pos ((tp_mk_0 (I.vv hc)).mpr h5)]; exact ⟨2, 0, σ, 0, tp_up τ 0 0 2, rfl, rfl, I, R.thrown 2, rfl, fun z => by omega, by omega⟩
          · rw [if_neg (fun v => h5 (tp_nc_0.mp ((tp_nI_0 (by have := tp_nc_lt σ c; omega)).mp v))), if_neg (fun v => h5 ((tp_mk_0 (I.vv hc)).mp v))]
            exact ⟨0, σ 6 (4 * c + i), σ, τ 5 (4 * c + i), tp_up τ 0 0 0, rfl, rfl, I, R.thrown 0, rfl, fun _ => (R.2.2.1 (4 * c + i) (by omega)).symm, by omega⟩
        · rw [if_neg h4, if_neg (fun v => h4 ((tp_le3_iff h1).mp v))]; exact ⟨1, 0, σ, 0, tp_up τ 0 0 1, rfl, rfl, I, R.thrown 1, rfl, fun z => by omega, by omega⟩
  · exact hno (tp_C_isChunk_o (.inl z)) (tp_M_isChunk_o (.inl z))
  · exact hno (tp_C_isChunk_o (.inr z)) (tp_M_isChunk_o (.inr z))
theorem tp_fail_loop {d : Nat} (hd : d < 12) (w : Int32) : ∀ k i σ τ, i + k = 400 → tp_Inv σ → tp_Rel (fun x => x = d) σ τ → (∀ c, c < i → tp_oN σ c d = false) →
    ∃ σ' τ', fC_fail_L25 (tp_nI d) w (k + 1) (tp_nI i) σ = some (0, w, σ') ∧ fM_fail_L34 (tp_nI d) w (k + 1) (tp_nI i) τ = some (w, τ') ∧ tp_Inv σ' ∧ tp_Rel tp_noX σ' τ' ∧ τ' 0 = τ 0 := by
  intro k
  induction k with
  | zero =>
    intro i σ τ hk I R hz
    have e : i = 400 := by omega
    have h0 : tp_cn σ d = 0 := tp_sumF_all0 (fun c hc => by show (tp_oN σ c d).toNat = 0; rw [hz c (by omega)]; rfl)
    refine ⟨tp_gone σ d, tp_up τ 1 d 0, ?_, ?_, I.gone hd h0, ?_, rfl⟩
    · rw [e, fC_fail_L25, if_pos (by decide), tp_C_takeAway hd]; rfl
    · rw [e, fM_fail_L34, if_pos (by decide), if_neg (tp_bd hd), tp_td hd]
    · refine ⟨fun x hx => ?_, R.2⟩
      show ((if x = d then 0 else τ 1 x) = (if x = d then 0 else σ 0 x) ∨ _) ∧ (0 < (if x = d then 0 else σ 0 x) → τ 2 x = (if x = d then 0 else σ 2 x))
      by_cases z : x = d
      · rw [if_pos z, if_pos z, if_pos z]; exact ⟨.inl rfl, fun v => absurd v (by decide)⟩
      · rw [if_neg z, if_neg z, if_neg z]
        exact ⟨.inl ((R.1 x hx).1.elim id (fun v => absurd v.1 z)), (R.1 x hx).2⟩
  | succ k ih =>
    intro i σ τ hk I R hz
    have hi : i < 400 := by omega
    rw [fC_fail_L25, if_neg (tp_g4 hi), tp_C_isOn' hi d, Option.bind_some, tp_if_bI, fM_fail_L34, if_neg (tp_g4 hi), tp_M_isOn I R hi hd, Option.bind_some, tp_if_bI, if_neg (tp_b4 hi), if_neg (tp_b4 hi), tp_t4 hi, tp_nI_s]
    cases ho : tp_oN σ i d with
    | false =>
      rw [if_neg (by decide), if_neg (by decide), tp_up_self]
      exact ih (i + 1) σ τ (by omega) I R (fun c hc => by
        by_cases z : c = i
        · rw [z]; exact ho
        · exact hz c (by omega))
    | true =>
      obtain ⟨σ1, r1, I1, o1, _, _, _, _, R1⟩ := tp_drop_spec I hi hd ho
      have k1 := R1 _ τ R (fun _ => rfl)
      rw [if_pos rfl, if_pos rfl, r1, Option.bind_some, tp_bt_n hd]
      obtain ⟨σ', τ', a1, a2, a3, a4, a5⟩ := ih (i + 1) σ1 _ (by omega) I1 k1 (fun c hc => by
        rw [o1 c d hd]
        by_cases z : c = i
        · rw [z, decide_eq_true rfl, decide_eq_true rfl]; exact Bool.and_false _
        · rw [hz c (by omega)]; rfl)
      exact ⟨σ', τ', a1, a2, a3, a4, a5⟩
theorem tp_fail_sim {σ τ : tp_St} (I : tp_Inv σ) (R : tp_Rel tp_noX σ τ) (x : Int32) : tp_Ok (fC_fail σ x) (fM_fail τ x) tp_mp1 := by
  have hno : ∀ (b1 : fC_isThere σ x = some 0) (b2 : fM_isDisk τ x = some 0), tp_Ok (fC_fail σ x) (fM_fail τ x) tp_mp1 := fun b1 b2 =>
    ⟨1, 0, σ, 0, tp_up τ 0 0 1, by rw [fC_fail, b1]; rfl, by rw [fM_fail, b2]; rfl, I, R.thrown 1, rfl, fun z => by omega, by omega⟩
  rcases tp_int_cases 12 (by omega) x with ⟨d, hd, e⟩ | z | z
  · cases ht : tp_th σ d with
    | false => exact hno (by rw [e, tp_C_isThere hd, ht]; rfl) (by rw [e, tp_M_isDisk R hd, ht]; rfl)
    | true =>
      have R0 := R.thrown 0
      rw [fC_fail, fM_fail, e, tp_C_isThere hd, tp_M_isDisk R hd, ht, Option.bind_some, Option.bind_some, tp_if_bI, tp_if_bI, if_pos rfl, if_pos rfl, if_neg (tp_bd hd), tp_td hd, tp_M_used I R0 hd, Option.bind_some, I.2.1 d hd]
      obtain ⟨σ', τ', a1, a2, a3, a4, a5⟩ := tp_fail_loop hd (tp_nI (tp_cn σ d)) 400 0 σ (tp_up τ 0 0 0) rfl I (R0.mono (fun _ _ z => z.elim)) (fun c hc => by omega)
      exact ⟨0, _, σ', _, τ', a1, a2, a3, a4, by rw [a5]; rfl, fun _ => rfl, by omega⟩
  · exact hno (tp_C_isThere_o (.inl z)) (tp_M_isDisk_o (.inl z))
  · exact hno (tp_C_isThere_o (.inr z)) (tp_M_isDisk_o (.inr z))
theorem tp_leave_sim {σ τ : tp_St} (I : tp_Inv σ) (R : tp_Rel tp_noX σ τ) (x : Int32) : tp_Ok (fC_leave σ x) (fM_leave τ x) tp_mpL := by
  have hno : ∀ (b1 : fC_isThere σ x = some 0) (b2 : fM_isDisk τ x = some 0), tp_Ok (fC_leave σ x) (fM_leave τ x) tp_mpL := fun b1 b2 =>
    ⟨1, 0, σ, 0, tp_up τ 0 0 1, by rw [fC_leave, b1]; rfl, by rw [fM_leave, b2]; rfl, I, R.thrown 1, rfl, fun z => by omega, by omega⟩
  rcases tp_int_cases 12 (by omega) x with ⟨d, hd, e⟩ | z | z
  · cases ht : tp_th σ d with
    | false => exact hno (by rw [e, tp_C_isThere hd, ht]; rfl) (by rw [e, tp_M_isDisk R hd, ht]; rfl)
    | true =>
      have h0 : 0 < σ 0 d := of_decide_eq_true ht
      have no2 : tp_Ok (some (2, 0, σ)) (some (0, tp_up τ 0 0 2)) tp_mpL := ⟨2, 0, σ, 0, tp_up τ 0 0 2, rfl, rfl, I, R.thrown 2, rfl, fun z => by omega, by omega⟩
      rw [fC_leave, fM_leave, e, tp_C_isThere hd, tp_M_isDisk R hd, ht, Option.bind_some, Option.bind_some, tp_if_bI, tp_if_bI, if_pos rfl, if_pos rfl, if_neg (tp_bd hd), if_neg (tp_bd hd), tp_td hd, (R.1 d hd).2 h0]
      by_cases hl : σ 2 d = 0
      · have e0 := tp_M_cw I R (k := 0) (by omega)
        have e1 := tp_M_cw I R (k := 1) (by omega)
        have e2 := tp_C_cw (σ := σ) (k := 2) (by omega)
        have q0 : fM_countWith τ 0 = some (tp_nI (tp_cw σ 0)) := e0
        have q1 : fM_countWith τ 1 = some (tp_nI (tp_cw σ 1)) := e1
        have q2 : fC_chunksWith σ 2 = some (tp_nI (tp_cw σ 2)) := e2
        have ha := tp_al_cw σ
        have hle := tp_al_le σ
        have hs : tp_nI (tp_cw σ 0) + tp_nI (tp_cw σ 1) = tp_nI (tp_cw σ 0 + tp_cw σ 1) := (Int32.ofNat_add _ _).symm
        rw [if_pos hl, if_pos hl, q0, q1, q2, tp_C_al, tp_M_al I R, tp_C_cap, tp_M_cap R]
        simp only [Option.bind_some]
        rw [hs]
        by_cases h2 : tp_cw σ 0 + tp_cw σ 1 = 0
        · rw [if_pos ((tp_nI_le (by omega) (by omega)).mpr (by omega)), if_pos ((tp_nI_np (by omega)).mpr h2)]
          by_cases h3 : tp_nI (tp_al σ) ≤ tp_cap (tp_qB σ (tp_nI d)) (σ 0)
          · rw [if_pos h3, if_pos h3, tp_vn1]
            have ho1 : (tp_up σ 2 d 1) 1 d = tp_nI (tp_cn σ d) := I.2.1 d hd
            have hh : fC_hasLeft (tp_up σ 2 d 1) (tp_nI d) = some (tp_bI (decide (tp_cn σ d = 0))) := by
              rw [tp_C_hasLeft hd, ho1, show tp_up σ 2 d 1 2 d = 1 from tp_up_eq]
              congr 2
              by_cases z : tp_cn σ d = 0
              · rw [z]; rfl
              · rw [decide_eq_false z, decide_eq_false (fun v => z ((tp_nI_0 (by have := tp_cn_le σ d; omega)).mp v))]; rfl
            rw [hh, Option.bind_some, tp_if_bI, ho1]
            by_cases z : tp_cn σ d = 0
            · -- it has no copies: it is there no more
              have I1 : tp_Inv (tp_gone (tp_up σ 2 d 1) d) := by
                have k := I.gone hd z
                refine ⟨k.1, k.2.1, fun y hy => ?_, k.2.2.2⟩
                show (if y = d then 0 else if y = d then 1 else σ 2 y) = 0 ∨ ((if y = d then 0 else if y = d then 1 else σ 2 y) = 1 ∧ 0 < tp_cn σ y)
                by_cases v : y = d
                · exact .inl (if_pos v)
                · rw [if_neg v, if_neg v]; exact I.2.2.1 y hy
              have R1 : tp_Rel (fun y => y = d) (tp_gone (tp_up σ 2 d 1) d) (tp_up (tp_up τ 0 0 0) 2 d 1) := by
                refine ⟨fun y hy => ?_, R.2⟩
                show (τ 1 y = (if y = d then 0 else σ 0 y) ∨ (y = d ∧ (if y = d then 0 else σ 0 y) = 0 ∧ 0 < τ 1 y ∧ (if y = d then 1 else τ 2 y) ≠ 0)) ∧ (0 < (if y = d then 0 else σ 0 y) → (if y = d then 1 else τ 2 y) = (if y = d then 0 else if y = d then 1 else σ 2 y))
                by_cases v : y = d
                · simp only [if_pos v]
                  exact ⟨.inr ⟨v, trivial, by rw [v, R.pl hd]; exact h0, by decide⟩, fun u => absurd u (by decide)⟩
                · simp only [if_neg v]
                  exact ⟨.inl (R.pl hy), (R.1 y hy).2⟩
              obtain ⟨τ', t1, t2, t3⟩ := tp_M_tidy I1 R1
              have hu : fM_used (tp_up (tp_up τ 0 0 0) 2 d 1) (tp_nI d) = some (tp_nI (tp_cn σ d)) := tp_M_used I1 R1 hd
              rw [decide_eq_true z, if_pos rfl, tp_C_takeAway hd, Option.bind_some, hu, Option.bind_some, t1, Option.bind_some]
              exact ⟨0, _, _, _, τ', rfl, rfl, I1, t2, by rw [t3]; rfl, fun _ => rfl, by omega⟩
            · have I1 : tp_Inv (tp_up σ 2 d 1) := by
                refine ⟨I.1, I.2.1, fun y hy => ?_, I.2.2.2⟩
                show (if y = d then 1 else σ 2 y) = 0 ∨ ((if y = d then 1 else σ 2 y) = 1 ∧ 0 < tp_cn σ y)
                by_cases v : y = d
                · rw [if_pos v, v]; exact .inr ⟨rfl, by omega⟩
                · rw [if_neg v]; exact I.2.2.1 y hy
              have R1 : tp_Rel tp_noX (tp_up σ 2 d 1) (tp_up (tp_up τ 0 0 0) 2 d 1) := by
                refine ⟨fun y hy => ⟨.inl (R.pl hy), fun u => ?_⟩, R.2⟩
                show (if y = d then 1 else τ 2 y) = (if y = d then 1 else σ 2 y)
                by_cases v : y = d
                · rw [if_pos v, if_pos v]
                · rw [if_neg v, if_neg v]; exact (R.1 y hy).2 u
              obtain ⟨τ', t1, t2, t3⟩ := tp_M_tidy I1 R1
              have hu : fM_used (tp_up (tp_up τ 0 0 0) 2 d 1) (tp_nI d) = some (tp_nI (tp_cn σ d)) := tp_M_used I1 R1 hd
              rw [decide_eq_false z, if_neg (by decide), hu, Option.bind_some, t1, Option.bind_some]
              exact ⟨0, _, _, _, τ', rfl, rfl, I1, t2, by rw [t3]; rfl, fun _ => rfl, by omega⟩
          · rw [if_neg h3, if_neg h3]
            exact ⟨4, 0, σ, 0, tp_up τ 0 0 3, rfl, rfl, I, R.thrown 3, rfl, fun z => by omega, by omega⟩
        · rw [if_neg (fun v => by have := (tp_nI_le (by omega) (by omega)).mp v; omega), if_neg (fun v => h2 ((tp_nI_np (by omega)).mp v))]
          exact no2
      · rw [if_neg hl, if_neg hl]; exact no2
  · exact hno (tp_C_isThere_o (.inl z)) (tp_M_isDisk_o (.inl z))
  · exact hno (tp_C_isThere_o (.inr z)) (tp_M_isDisk_o (.inr z))
theorem tp_stay_sim {σ τ : tp_St} (I : tp_Inv σ) (R : tp_Rel tp_noX σ τ) (x : Int32) : tp_Ok0 (fC_stay σ x) (fM_stay τ x) tp_mpI := by
  have hno : ∀ (b1 : fC_isThere σ x = some 0) (b2 : fM_isDisk τ x = some 0), tp_Ok0 (fC_stay σ x) (fM_stay τ x) tp_mpI := fun b1 b2 =>
    ⟨1, 0, σ, tp_up τ 0 0 1, by rw [fC_stay, b1]; rfl, by rw [fM_stay, b2]; rfl, I, R.thrown 1, rfl, by omega⟩
  rcases tp_int_cases 12 (by omega) x with ⟨d, hd, e⟩ | z | z
  · cases ht : tp_th σ d with
    | false => exact hno (by rw [e, tp_C_isThere hd, ht]; rfl) (by rw [e, tp_M_isDisk R hd, ht]; rfl)
    | true =>
      have h0 : 0 < σ 0 d := of_decide_eq_true ht
      rw [fC_stay, fM_stay, e, tp_C_isThere hd, tp_M_isDisk R hd, ht, Option.bind_some, Option.bind_some, tp_if_bI, tp_if_bI, if_pos rfl, if_pos rfl, if_neg (tp_bd hd), if_neg (tp_bd hd), tp_td hd, (R.1 d hd).2 h0, tp_vn0]
      by_cases hl : σ 2 d = 0
      · rw [if_pos hl, if_pos hl]; exact ⟨2, 0, σ, tp_up τ 0 0 2, rfl, rfl, I, R.thrown 2, rfl, by omega⟩
      · rw [if_neg hl, if_neg hl]
        refine ⟨0, 0, tp_up σ 2 d 0, tp_up (tp_up τ 0 0 0) 2 d 0, rfl, rfl, ⟨I.1, I.2.1, fun y hy => ?_, I.2.2.2⟩, ⟨fun y hy => ⟨.inl (R.pl hy), fun u => ?_⟩, R.2⟩, rfl, by omega⟩
        · show (if y = d then 0 else σ 2 y) = 0 ∨ ((if y = d then 0 else σ 2 y) = 1 ∧ 0 < tp_cn σ y)
          by_cases v : y = d
          · exact .inl (if_pos v)
          · rw [if_neg v]; exact I.2.2.1 y hy
        · show (if y = d then 0 else τ 2 y) = (if y = d then 0 else σ 2 y)
          by_cases v : y = d
          · rw [if_pos v, if_pos v]
          · rw [if_neg v, if_neg v]; exact (R.1 y hy).2 u
  · exact hno (tp_C_isThere_o (.inl z)) (tp_M_isDisk_o (.inl z))
  · exact hno (tp_C_isThere_o (.inr z)) (tp_M_isDisk_o (.inr z))
end
section
theorem tp_no_oN {σ : tp_St} {c : Nat} (h : tp_VV (σ 4 c) (σ 5 c)) (hn : ∀ e, e < 12 → tp_oN σ c e = false) : σ 4 c = -1 ∧ σ 5 c = -1 := by
  rcases h with h | ⟨a, ha, h1, h2⟩ | ⟨a, b, hab, hb, h1, h2⟩
  · exact h
  · have := hn a ha
    rw [tp_oN, h1, decide_eq_true rfl] at this; cases this
  · have := hn a (by omega)
    rw [tp_oN, h1, decide_eq_true rfl] at this; cases this
theorem tp_Rel.freed {X : Nat → Prop} {σ τ : tp_St} {c : Nat} {m : Int32} (R : tp_Rel X σ (tp_up τ 4 c m)) (h4 : σ 4 c = -1) (h5 : σ 5 c = -1) : tp_Rel X (tp_up σ 3 c 0) (tp_up (tp_up τ 3 c 0) 4 c 0) := by
  refine ⟨R.1, fun k hk => ?_, R.2.2⟩
  show (if k = c then 0 else τ 3 k) = (if k = c then 0 else σ 3 k) ∧ (if k = c then 0 else τ 4 k) = tp_mK (σ 4 k) (σ 5 k)
  have k3 : τ 3 k = σ 3 k := R.th hk
  have k4 : (if k = c then m else τ 4 k) = tp_mK (σ 4 k) (σ 5 k) := R.cp hk
  by_cases z : k = c
  · rw [if_pos z, if_pos z, if_pos z, z, h4, h5]; exact ⟨rfl, tp_mk_z.symm⟩
  · rw [if_neg z] at k4
    rw [if_neg z, if_neg z, if_neg z]; exact ⟨k3, k4⟩
theorem tp_Inv.freed {σ : tp_St} {c : Nat} (I : tp_Inv σ) (h4 : σ 4 c = -1) (h5 : σ 5 c = -1) : tp_Inv (tp_up σ 3 c 0) := by
  refine ⟨I.1, I.2.1, I.2.2.1, fun k hk => ?_⟩
  show ((if k = c then 0 else σ 3 k) = 0 ∧ σ 4 k = -1 ∧ σ 5 k = -1) ∨ ((if k = c then 0 else σ 3 k) = 1 ∧ tp_VV (σ 4 k) (σ 5 k))
  by_cases z : k = c
  · rw [if_pos z, z]; exact .inl ⟨rfl, h4, h5⟩
  · rw [if_neg z]; exact I.2.2.2 k hk
abbrev tp_anyX : Nat → Prop := fun _ => True
theorem tp_free_sim {σ τ : tp_St} (I : tp_Inv σ) (R : tp_Rel tp_noX σ τ) (x : Int32) : tp_Ok (fC_free σ x) (fM_free τ x) tp_mp1 := by
  have hno : ∀ (b1 : fC_isChunk σ x = some 0) (b2 : fM_isChunk τ x = some 0), tp_Ok (fC_free σ x) (fM_free τ x) tp_mp1 := fun b1 b2 =>
    ⟨1, 0, σ, 0, tp_up τ 0 0 1, by rw [fC_free, b1]; rfl, by rw [fM_free, b2]; rfl, I, R.thrown 1, rfl, fun z => by omega, by omega⟩
  rcases tp_int_cases 400 (by omega) x with ⟨c, hc, e⟩ | z | z
  · by_cases h3 : σ 3 c = 0
    · exact hno (by rw [e, tp_C_isChunk hc, h3]; rfl) (by rw [e, tp_M_isChunk R hc, h3]; rfl)
    · have R0 : tp_Rel tp_anyX σ (tp_up τ 0 0 0) := (R.thrown 0).mono (fun _ _ z => z.elim)
      have main : ∃ σ', fC_free σ (tp_nI c) = some (0, tp_nI (tp_nc σ c), σ') ∧ tp_Inv σ' ∧ tp_Rel tp_anyX σ' (tp_up (tp_up (tp_up τ 0 0 0) 3 c 0) 4 c 0) := by
        rw [fC_free, tp_C_isChunk hc, Option.bind_some, decide_eq_true h3, tp_if_bI, if_pos rfl, tp_C_copies hc, Option.bind_some, if_neg (tp_b4 hc), tp_t4 hc, tp_vn0]
        rcases I.vv hc with ⟨h4, h5⟩ | ⟨a, ha, h4, h5⟩ | ⟨a, b, hab, hb, h4, h5⟩
        · rw [if_pos h5, if_pos h4]
          exact ⟨_, rfl, I.freed h4 h5, tp_Rel.freed (m := (tp_up τ 0 0 0) 4 c) (by rw [tp_up_self]; exact R0) h4 h5⟩
        · have oa : tp_oN σ c a = true := by rw [tp_oN, h4, decide_eq_true rfl]; rfl
          obtain ⟨σ1, r1, I1, o1, _, _, _, _, R1⟩ := tp_drop_spec I hc ha oa
          have hn := tp_no_oN (I1.vv hc) (fun e he => by
            rw [o1 c e he, tp_oN_1 h4 h5 ha he, decide_eq_true (rfl : c = c), Bool.true_and]
            cases decide (e = a) <;> rfl)
          rw [if_pos h5, if_neg (by rw [h4]; exact tp_nI_m (by omega)), h4, r1, Option.bind_some]
          exact ⟨_, rfl, I1.freed hn.1 hn.2, (R1 tp_anyX _ R0 (fun _ => trivial)).freed hn.1 hn.2⟩
        · have hba : ¬ tp_nI a = tp_nI b := fun z => absurd ((tp_nI_eq (by omega) (by omega)).mp z) (by omega)
          have ob : tp_oN σ c b = true := by rw [tp_oN, h5, decide_eq_true (rfl : tp_nI b = tp_nI b), Bool.or_true]
          obtain ⟨σ1, r1, I1, o1, ⟨_, _, _, s4⟩, _, _, _, R1⟩ := tp_drop_spec I hc hb ob
          have e4 : σ1 4 c = tp_nI a := by rw [s4, tp_ot, h4, if_neg hba]
          have hoe : ∀ e, e < 12 → tp_oN σ1 c e = decide (e = a) := fun e he => by
            rw [o1 c e he, tp_oN, h4, h5, decide_eq_true (rfl : c = c), Bool.true_and]
            by_cases z : e = b
            · rw [decide_eq_true z, decide_eq_false (show ¬ e = a by omega)]; exact Bool.and_false _
            · rw [decide_eq_false z, Bool.not_false, Bool.and_true, decide_eq_false (fun w : tp_nI b = tp_nI e => z ((tp_nI_eq (by omega) (by omega)).mp w).symm), Bool.or_false]
              exact decide_eq_decide.mpr ⟨fun w => ((tp_nI_eq (by omega) (by omega)).mp w).symm, fun w => by rw [w]⟩
          have oa : tp_oN σ1 c a = true := by rw [hoe a (by omega)]; exact decide_eq_true rfl
          obtain ⟨σ2, r2, I2, o2, _, _, _, _, R2⟩ := tp_drop_spec I1 hc (show a < 12 by omega) oa
          have hn := tp_no_oN (I2.vv hc) (fun e he => by
            rw [o2 c e he, hoe e he, decide_eq_true (rfl : c = c), Bool.true_and]
            cases decide (e = a) <;> rfl)
          have k := R2 tp_anyX _ (R1 tp_anyX _ R0 (fun _ => trivial)) (fun _ => trivial)
          rw [tp_up_up] at k
          rw [if_neg (by rw [h5]; exact tp_nI_m (by omega)), h5, r1, Option.bind_some, if_neg (by rw [e4]; exact tp_nI_m (by omega)), e4, r2, Option.bind_some]
          exact ⟨_, rfl, I2.freed hn.1 hn.2, k.freed hn.1 hn.2⟩
      obtain ⟨σ', a1, I1, R1⟩ := main
      obtain ⟨τ', t1, t2, t3⟩ := tp_M_tidy I1 R1
      rw [e]
      refine ⟨0, tp_nI (tp_nc σ c), σ', tp_nI (tp_nc σ c), τ', a1, ?_, I1, t2, by rw [t3]; rfl, fun _ => rfl, by omega⟩
      rw [fM_free, tp_M_isChunk R hc, Option.bind_some, decide_eq_true h3, tp_if_bI, if_pos rfl, tp_M_howMany I (R.thrown 0) hc, Option.bind_some, if_neg (tp_b4 hc), tp_t4 hc, tp_vn0, t1]; rfl
  · exact hno (tp_C_isChunk_o (.inl z)) (tp_M_isChunk_o (.inl z))
  · exact hno (tp_C_isChunk_o (.inr z)) (tp_M_isChunk_o (.inr z))
def tp_pz (x : Int32) (i : Nat) : Int32 := if x ≠ -1 ∧ x.toNatClampNeg < i then x else -1
theorem tp_pz_m (i : Nat) : tp_pz (-1) i = -1 := if_neg (fun z => z.1 rfl)
theorem tp_pz_n {a : Nat} (ha : a < 12) (i : Nat) : tp_pz (tp_nI a) i = if a < i then tp_nI a else -1 := by
  rw [tp_pz, tp_td ha]
  by_cases z : a < i
  · rw [if_pos z, if_pos ⟨tp_nI_m (by omega), z⟩]
  · rw [if_neg z, if_neg (fun w => z w.2)]
theorem tp_pz_12 {x : Int32} (h : tp_DD x) : tp_pz x 12 = x := by
  rcases h with h | ⟨a, ha, h⟩
  · rw [h, tp_pz_m]
  · rw [h, tp_pz_n ha, if_pos ha]
theorem tp_M_place {σ τ : tp_St} (I : tp_Inv σ) (R : tp_Rel tp_noX σ τ) {c : Nat} (hc : c < 400) (x : Int32) : fM_place_L34 (tp_nI c) x 13 (-1) (-1) 0 τ = if x = 0 then some (σ 4 c, τ) else some (σ 5 c, τ) := by
  have h := tp_acc_loop0 (F := fun n (b : Int32 × Int32) y => fM_place_L34 (tp_nI c) x n b.1 b.2 y τ) (N := 12) (acc := fun i => (tp_pz (σ 4 c) i, tp_pz (σ 5 c) i)) (fin := if x = 0 then some (σ 4 c, τ) else some (σ 5 c, τ)) (by
    show fM_place_L34 (tp_nI c) x 1 (tp_pz (σ 4 c) 12) (tp_pz (σ 5 c) 12) (tp_nI 12) τ = _
    rw [fM_place_L34, if_pos (by decide), tp_pz_12 (I.vv hc).l, tp_pz_12 (I.vv hc).g]) (fun n i hi => by
    show fM_place_L34 (tp_nI c) x (n + 1) (tp_pz (σ 4 c) i) (tp_pz (σ 5 c) i) (tp_nI i) τ = fM_place_L34 (tp_nI c) x n (tp_pz (σ 4 c) (i + 1)) (tp_pz (σ 5 c) (i + 1)) (tp_nI i + 1) τ
    have hne : decide ((-1 : Int32) = tp_nI i) = false := decide_eq_false (tp_nI_m' (by omega))
    have hm : ¬ (0 : Int32) ≤ -1 := by decide
    rw [fM_place_L34, if_neg (tp_gd hi), tp_M_isOn I R hc hi, Option.bind_some, tp_if_bI]
    rcases I.vv hc with ⟨h4, h5⟩ | ⟨a, ha, h4, h5⟩ | ⟨a, b, hab, hb, h4, h5⟩
    · rw [tp_oN, h4, h5, hne, tp_pz_m, tp_pz_m]; rfl
    · rw [tp_oN_1 h4 h5 ha hi, h4, h5, tp_pz_m, tp_pz_m, tp_pz_n ha, tp_pz_n ha]
      by_cases z : i = a
      · rw [decide_eq_true z, if_pos rfl, if_neg (show ¬ a < i by omega), if_neg hm, if_neg hm, if_pos (by omega), z]
      · rw [decide_eq_false z, if_neg (by decide)]
        by_cases w : a < i
        · rw [if_pos w, if_pos (by omega)]
        · rw [if_neg w, if_neg (by omega)]
    · have ha : a < 12 := by omega
      have o1 : tp_oN σ c i = (decide (i = a) || decide (i = b)) := by
        rw [tp_oN, h4, h5, show decide (tp_nI a = tp_nI i) = decide (i = a) from decide_eq_decide.mpr ⟨fun w => ((tp_nI_eq (by omega) (by omega)).mp w).symm, fun w => by rw [w]⟩, show decide (tp_nI b = tp_nI i) = decide (i = b) from decide_eq_decide.mpr ⟨fun w => ((tp_nI_eq (by omega) (by omega)).mp w).symm, fun w => by rw [w]⟩]
      rw [o1, h4, h5, tp_pz_n ha, tp_pz_n ha, tp_pz_n hb, tp_pz_n hb]
      by_cases z : i = a
      · rw [decide_eq_true z, Bool.true_or, if_pos rfl, if_neg (show ¬ a < i by omega), if_neg hm, if_neg hm, if_neg (show ¬ b < i by omega), if_neg (show ¬ b < i + 1 by omega), if_pos (show a < i + 1 by omega), z]
      · rw [decide_eq_false z, Bool.false_or]
        by_cases w : i = b
        · have p : 0 ≤ tp_nI a := Int32.not_lt.mp (tp_nI_nn (by omega))
          rw [decide_eq_true w, if_pos rfl, if_pos (show a < i by omega), if_pos p, if_pos p, if_pos (show a < i + 1 by omega), if_pos (show b < i + 1 by omega), w]
        · rw [decide_eq_false w, if_neg (by decide)]
          have k1 : (if a < i then tp_nI a else -1) = (if a < i + 1 then tp_nI a else -1) := by
            by_cases v : a < i
            · rw [if_pos v, if_pos (by omega)]
            · rw [if_neg v, if_neg (by omega)]
          have k2 : (if b < i then tp_nI b else -1) = (if b < i + 1 then tp_nI b else -1) := by
            by_cases v : b < i
            · rw [if_pos v, if_pos (by omega)]
            · rw [if_neg v, if_neg (by omega)]
          rw [k1, k2])
  have e1 : tp_pz (σ 4 c) 0 = -1 := by rw [tp_pz, if_neg (fun z => absurd z.2 (by omega))]
  have e2 : tp_pz (σ 5 c) 0 = -1 := by rw [tp_pz, if_neg (fun z => absurd z.2 (by omega))]
  have h' : fM_place_L34 (tp_nI c) x 13 (tp_pz (σ 4 c) 0) (tp_pz (σ 5 c) 0) 0 τ = _ := h
  rw [e1, e2] at h'
  exact h'
theorem tp_place_sim {σ τ : tp_St} (I : tp_Inv σ) (R : tp_Rel tp_noX σ τ) (x y : Int32) : tp_Ok (fC_place σ x y) (fM_place τ x y) tp_mp1 := by
  have hno : ∀ (b1 : fC_isChunk σ x = some 0) (b2 : fM_isChunk τ x = some 0), tp_Ok (fC_place σ x y) (fM_place τ x y) tp_mp1 := fun b1 b2 =>
    ⟨1, 0, σ, 0, tp_up τ 0 0 1, by rw [fC_place, b1]; rfl, by rw [fM_place, b2]; rfl, I, R.thrown 1, rfl, fun z => by omega, by omega⟩
  rcases tp_int_cases 400 (by omega) x with ⟨c, hc, e⟩ | z | z
  · by_cases h3 : σ 3 c = 0
    · exact hno (by rw [e, tp_C_isChunk hc, h3]; rfl) (by rw [e, tp_M_isChunk R hc, h3]; rfl)
    · rw [fC_place, fM_place, e, tp_C_isChunk hc, tp_M_isChunk R hc, Option.bind_some, Option.bind_some, decide_eq_true h3, tp_if_bI, tp_if_bI, if_pos rfl, if_pos rfl, if_neg (tp_b4 hc), if_neg (tp_b4 hc), tp_t4 hc, tp_M_place I (R.thrown 0) hc]
      by_cases w : y = 0
      · rw [if_pos w, if_pos w]; exact ⟨0, _, σ, _, tp_up τ 0 0 0, rfl, rfl, I, R.thrown 0, rfl, fun _ => rfl, by omega⟩
      · rw [if_neg w, if_neg w]; exact ⟨0, _, σ, _, tp_up τ 0 0 0, rfl, rfl, I, R.thrown 0, rfl, fun _ => rfl, by omega⟩
  · exact hno (tp_C_isChunk_o (.inl z)) (tp_M_isChunk_o (.inl z))
  · exact hno (tp_C_isChunk_o (.inr z)) (tp_M_isChunk_o (.inr z))
theorem tp_C_lco {σ : tp_St} (d : Nat) : fC_leastChunkOn σ (tp_nI d) = some (tp_enc (tp_findF (fun c => tp_oN σ c d) 400 0)) := by
  have h := tp_find_loop0 (F := fun n x => fC_leastChunkOn_L2 σ (tp_nI d) n x) (N := 400) (p := fun c => tp_oN σ c d) (hit := fun j => some (tp_nI j)) (miss := some (-1)) (by
    show fC_leastChunkOn_L2 σ (tp_nI d) 1 (tp_nI 400) = _
    rw [fC_leastChunkOn_L2, if_pos (by decide)]) (fun n i hi => by
    show fC_leastChunkOn_L2 σ (tp_nI d) (n + 1) (tp_nI i) = _
    rw [fC_leastChunkOn_L2, if_neg (tp_g4 hi), tp_C_isOn' hi d, Option.bind_some, tp_if_bI])
  rw [fC_leastChunkOn]
  refine Eq.trans h ?_
  cases tp_findF (fun c => tp_oN σ c d) 400 0 <;> rfl
theorem tp_M_lco {σ τ : tp_St} (I : tp_Inv σ) (R : tp_Rel tp_noX σ τ) {d : Nat} (hd : d < 12) : fM_about_L87 (tp_nI d) 401 0 τ = some (tp_enc (tp_findF (fun c => tp_oN σ c d) 400 0), τ) := by
  have h := tp_find_loop0 (F := fun n x => fM_about_L87 (tp_nI d) n x τ) (N := 400) (p := fun c => tp_oN σ c d) (hit := fun j => some (tp_nI j, τ)) (miss := some (-1, τ)) (by
    show fM_about_L87 (tp_nI d) 1 (tp_nI 400) τ = _
    rw [fM_about_L87, if_pos (by decide)]) (fun n i hi => by
    show fM_about_L87 (tp_nI d) (n + 1) (tp_nI i) τ = _
    rw [fM_about_L87, if_neg (tp_g4 hi), tp_M_isOn I R hi hd, Option.bind_some, tp_if_bI])
  refine Eq.trans h ?_
  cases tp_findF (fun c => tp_oN σ c d) 400 0 <;> rfl
theorem tp_about_sim {σ τ : tp_St} (I : tp_Inv σ) (R : tp_Rel tp_noX σ τ) (x y : Int32) : tp_Ok (fC_about σ x y) (fM_about τ x y) tp_mpA := by
  have hno : ∀ (b1 : fC_isThere σ x = some 0) (b2 : fM_isDisk τ x = some 0), tp_Ok (fC_about σ x y) (fM_about τ x y) tp_mpA := fun b1 b2 =>
    ⟨1, 0, σ, 0, tp_up τ 0 0 1, by rw [fC_about, b1]; rfl, by rw [fM_about, b2]; rfl, I, R.thrown 1, rfl, fun z => by omega, by omega⟩
  rcases tp_int_cases 12 (by omega) x with ⟨d, hd, e⟩ | z | z
  · cases ht : tp_th σ d with
    | false => exact hno (by rw [e, tp_C_isThere hd, ht]; rfl) (by rw [e, tp_M_isDisk R hd, ht]; rfl)
    | true =>
      have h0 : 0 < σ 0 d := of_decide_eq_true ht
      have R0 := R.thrown 0
      have no3 : tp_Ok (some (3, 0, σ)) (some (0, tp_up τ 0 0 2)) tp_mpA := ⟨3, 0, σ, 0, tp_up τ 0 0 2, rfl, rfl, I, R.thrown 2, rfl, fun z => by omega, by omega⟩
      have yes : ∀ v : Int32, tp_Ok (some (0, v, σ)) (some (v, tp_up τ 0 0 0)) tp_mpA := fun v => ⟨0, v, σ, v, tp_up τ 0 0 0, rfl, rfl, I, R0, rfl, fun _ => rfl, by omega⟩
      rw [fC_about, fM_about, e, tp_C_isThere hd, tp_M_isDisk R hd, ht, Option.bind_some, Option.bind_some, tp_if_bI, tp_if_bI, if_pos rfl, if_pos rfl, if_neg (tp_bd hd), if_neg (tp_bd hd), if_neg (tp_bd hd), if_neg (tp_bd hd), tp_td hd, tp_C_free hd, tp_M_freeOn I R0 hd, tp_C_lco d, tp_M_lco I R0 hd]
      simp only [Option.bind_some]
      rcases tp_int_cases 4 (by omega) y with ⟨k, hk, ey⟩ | z | z
      · rcases (show k = 0 ∨ k = 1 ∨ k = 2 ∨ k = 3 from by omega) with k0 | k0 | k0 | k0
        · have e1 : y = 0 := by rw [ey, k0]; rfl
          subst e1
          rw [if_pos rfl, if_neg (by decide), if_pos (by decide), if_neg (by decide), if_pos rfl]
          have := yes (σ 0 d)
          rw [← R.pl hd] at this ⊢
          exact this
        · have e1 : y = 1 := by rw [ey, k0]; rfl
          subst e1
          rw [if_neg (by decide), if_pos rfl, if_neg (by decide), if_pos (by decide), if_neg (by decide), if_neg (by decide), if_pos rfl]
          exact yes _
        · have e1 : y = 2 := by rw [ey, k0]; rfl
          subst e1
          rw [if_neg (show ¬ (2 : Int32) = 0 by decide), if_neg (show ¬ (2 : Int32) = 1 by decide), if_pos (show (2 : Int32) = 2 from rfl), if_neg (show ¬ (2 : Int32) < 0 by decide), if_pos (show (2 : Int32) ≤ 3 by decide), if_neg (show ¬ (3 : Int32) ≤ 2 by decide), if_neg (show ¬ (2 : Int32) = 0 by decide), if_neg (show ¬ (2 : Int32) = 1 by decide)]
          show tp_Ok (if σ 2 d = 0 then _ else _) (if τ 2 d = 0 then _ else _) tp_mpA
          rw [(R.1 d hd).2 h0]
          by_cases w : σ 2 d = 0
          · rw [if_pos w, if_pos w]; exact yes 0
          · rw [if_neg w, if_neg w]; exact yes 1
        · have e1 : y = 3 := by rw [ey, k0]; rfl
          subst e1
          rw [if_neg (by decide), if_neg (by decide), if_neg (by decide), if_pos rfl, if_neg (by decide), if_pos (by decide), if_pos (by decide)]
          exact yes _
      · rw [if_neg (fun w => by rw [w] at z; exact absurd z (by decide)), if_neg (fun w => by rw [w] at z; exact absurd z (by decide)), if_neg (fun w => by rw [w] at z; exact absurd z (by decide)), if_neg (fun w => by rw [w] at z; exact absurd z (by decide)), if_pos z]
        exact no3
      · have z3 : ¬ y ≤ 3 := fun w => absurd (Int32.le_trans z w) (by decide)
        have z0 : ¬ y < 0 := fun w => absurd (Int32.lt_of_le_of_lt z w) (by decide)
        rw [if_neg (fun w => by rw [w] at z; exact absurd z (by decide)), if_neg (fun w => by rw [w] at z; exact absurd z (by decide)), if_neg (fun w => by rw [w] at z; exact absurd z (by decide)), if_neg (fun w => by rw [w] at z; exact absurd z (by decide)), if_neg z0, if_neg z3]
        exact no3
  · exact hno (tp_C_isThere_o (.inl z)) (tp_M_isDisk_o (.inl z))
  · exact hno (tp_C_isThere_o (.inr z)) (tp_M_isDisk_o (.inr z))
theorem tp_count_sim {σ τ : tp_St} (I : tp_Inv σ) (R : tp_Rel tp_noX σ τ) (x : Int32) : tp_Ok (fC_count σ x) (fM_count τ x) tp_mp1 := by
  have R0 := R.thrown 0
  have yes : ∀ v : Int32, tp_Ok (some (0, v, σ)) (some (v, tp_up τ 0 0 0)) tp_mp1 := fun v => ⟨0, v, σ, v, tp_up τ 0 0 0, rfl, rfl, I, R0, rfl, fun _ => rfl, by omega⟩
  have no : tp_Ok (some (3, 0, σ)) (some (0, tp_up τ 0 0 1)) tp_mp1 := ⟨3, 0, σ, 0, tp_up τ 0 0 1, rfl, rfl, I, R.thrown 1, rfl, fun z => by omega, by omega⟩
  have q1 : fC_chunksWith σ 1 = some (tp_nI (tp_cw σ 1)) := tp_C_cw (k := 1) (by omega)
  have q0 : fC_chunksWith σ 0 = some (tp_nI (tp_cw σ 0)) := tp_C_cw (k := 0) (by omega)
  have r1 : fM_countWith (tp_up τ 0 0 0) 1 = some (tp_nI (tp_cw σ 1)) := tp_M_cw I R0 (k := 1) (by omega)
  have r0 : fM_countWith (tp_up τ 0 0 0) 0 = some (tp_nI (tp_cw σ 0)) := tp_M_cw I R0 (k := 0) (by omega)
  rw [fC_count, fM_count, tp_M_countL I R0, fM_count_L35, tp_C_dt, tp_C_al, tp_C_cap, q1, q0, tp_C_col, tp_M_al I R0, tp_M_cap R0, r1, r0]
  simp only [Option.bind_some]
  rcases tp_int_cases 7 (by omega) x with ⟨k, hk, ex⟩ | z | z
  · have m6 : (tp_up τ 0 0 0) 6 0 = σ 7 0 := R.2.2.2
    rcases (show k = 0 ∨ k = 1 ∨ k = 2 ∨ k = 3 ∨ k = 4 ∨ k = 5 ∨ k = 6 from by omega) with k0 | k0 | k0 | k0 | k0 | k0 | k0
    · have e1 : x = 0 := by rw [ex, k0]; rfl
      subst e1; exact yes _
    · have e1 : x = 1 := by rw [ex, k0]; rfl
      subst e1; exact yes _
    · have e1 : x = 2 := by rw [ex, k0]; rfl
      subst e1; exact yes _
    · have e1 : x = 3 := by rw [ex, k0]; rfl
      subst e1; exact yes _
    · have e1 : x = 4 := by rw [ex, k0]; rfl
      subst e1; exact yes _
    · have e1 : x = 5 := by rw [ex, k0]; rfl
      subst e1; exact yes _
    · have e1 : x = 6 := by rw [ex, k0]; rfl
      subst e1
      have := yes (σ 7 0)
      rw [← m6] at this ⊢
      exact this
  · rw [if_neg (fun w => by rw [w] at z; exact absurd z (by decide)), if_neg (fun w => by rw [w] at z; exact absurd z (by decide)), if_neg (fun w => by rw [w] at z; exact absurd z (by decide)), if_neg (fun w => by rw [w] at z; exact absurd z (by decide)), if_neg (fun w => by rw [w] at z; exact absurd z (by decide)), if_neg (fun w => by rw [w] at z; exact absurd z (by decide)), if_neg (fun w => by rw [w] at z; exact absurd z (by decide)), if_pos z]
    exact no
  · have z6 : 6 < x := Int32.lt_of_lt_of_le (by decide : (6 : Int32) < tp_nI 7) z
    have z0 : ¬ x < 0 := fun w => absurd (Int32.lt_of_le_of_lt z w) (by decide)
    rw [if_neg (fun w => by rw [w] at z; exact absurd z (by decide)), if_neg (fun w => by rw [w] at z; exact absurd z (by decide)), if_neg (fun w => by rw [w] at z; exact absurd z (by decide)), if_neg (fun w => by rw [w] at z; exact absurd z (by decide)), if_neg (fun w => by rw [w] at z; exact absurd z (by decide)), if_neg (fun w => by rw [w] at z; exact absurd z (by decide)), if_neg (fun w => by rw [w] at z; exact absurd z (by decide)), if_neg z0, if_pos z6]
    exact no
theorem tp_step1_sim {σ τ : tp_St} (I : tp_Inv σ) (R : tp_Rel tp_noX σ τ) : ∃ r σ' τ', fC_step σ = some (r, σ') ∧ fM_step τ = some (r, τ') ∧ tp_Inv σ' ∧ tp_Rel tp_noX σ' τ' ∧ τ' 0 0 = 0 := by
  obtain ⟨r, σ', τ', a1, a2, I1, R1, t1, _⟩ := tp_step_sim I (R.thrown 0)
  exact ⟨r, σ', τ', by rw [fC_step, a1]; rfl, by rw [fM_step, a2]; rfl, I1, R1, by rw [t1]; rfl⟩
theorem tp_start_inv {σ : tp_St} (h0 : ∀ d, d < 12 → σ 0 d = 0 ∧ σ 1 d = 0 ∧ σ 2 d = 0) (h3 : ∀ c, c < 400 → σ 3 c = 0 ∧ σ 4 c = -1 ∧ σ 5 c = -1) : tp_Inv σ := by
  have hc : ∀ d, d < 12 → tp_cn σ d = 0 := fun d hd => tp_sumF_all0 (fun c hc => by
    show (tp_oN σ c d).toNat = 0
    rw [tp_oN, (h3 c hc).2.1, (h3 c hc).2.2, decide_eq_false (tp_nI_m' (by omega))]; rfl)
  exact ⟨fun d hd => ⟨0, by omega, (h0 d hd).1, by rw [hc d hd]; omega⟩, fun d hd => by rw [hc d hd]; exact (h0 d hd).2.1, fun d hd => .inl (h0 d hd).2.2, fun c hc => .inl (h3 c hc)⟩
theorem tp_start_rel {σ τ : tp_St} (h0 : ∀ d, d < 12 → σ 0 d = 0 ∧ τ 1 d = 0) (h3 : ∀ c, c < 400 → σ 3 c = 0 ∧ σ 4 c = -1 ∧ σ 5 c = -1 ∧ τ 3 c = 0 ∧ τ 4 c = 0) (h6 : ∀ k, k < 1600 → σ 6 k = 0 ∧ τ 5 k = 0) (h7 : σ 7 0 = 0) (h8 : τ 6 0 = 0) : tp_Rel tp_noX σ τ :=
  ⟨fun d hd => ⟨.inl (by rw [(h0 d hd).1, (h0 d hd).2]), fun z => by rw [(h0 d hd).1] at z; exact absurd z (by decide)⟩, fun c hc => by
    obtain ⟨a, b, c', d, e⟩ := h3 c hc
    exact ⟨by rw [a, d], by rw [b, c', e]; exact tp_mk_z.symm⟩, fun k hk => by rw [(h6 k hk).1, (h6 k hk).2], by rw [h7, h8]⟩
end
section
def lw_okq (q : MethodName × Nat) : Prop := (q.1.cls ≠ "java/lang/invoke/MethodHandle" ∧ q.1.cls ≠ "java/lang/invoke/VarHandle") ∧ Cond.instantiable q.1.cls q.2 ∈ tables_1 ∧ Cond.privateMethod q.1 ∈ tables_1 ∧ Cond.instanceMethod q.1 ∈ tables_1
theorem lw_p0 : lw_okq (⟨"TwinPool", "nextStep", "()I"⟩, 8) := ⟨⟨by decide +kernel, by decide +kernel⟩, List.mem_of_getElem? (i := 12) (by decide +kernel), List.mem_of_getElem? (i := 51) (by decide +kernel), List.mem_of_getElem? (i := 52) (by decide +kernel)⟩
theorem lw_p1 : lw_okq (⟨"TwinPool", "mendOne", "()Z"⟩, 8) := ⟨⟨by decide +kernel, by decide +kernel⟩, List.mem_of_getElem? (i := 12) (by decide +kernel), List.mem_of_getElem? (i := 55) (by decide +kernel), List.mem_of_getElem? (i := 56) (by decide +kernel)⟩
theorem lw_p2 : lw_okq (⟨"TwinPool", "isDegraded", "(I)Z"⟩, 8) := ⟨⟨by decide +kernel, by decide +kernel⟩, List.mem_of_getElem? (i := 12) (by decide +kernel), List.mem_of_getElem? (i := 59) (by decide +kernel), List.mem_of_getElem? (i := 60) (by decide +kernel)⟩
theorem lw_p3 : lw_okq (⟨"TwinPool", "copiesOf", "(I)I"⟩, 8) := ⟨⟨by decide +kernel, by decide +kernel⟩, List.mem_of_getElem? (i := 12) (by decide +kernel), List.mem_of_getElem? (i := 63) (by decide +kernel), List.mem_of_getElem? (i := 64) (by decide +kernel)⟩
theorem lw_p4 : lw_okq (⟨"TwinPool", "emptiestBut", "(I)I"⟩, 8) := ⟨⟨by decide +kernel, by decide +kernel⟩, List.mem_of_getElem? (i := 12) (by decide +kernel), List.mem_of_getElem? (i := 67) (by decide +kernel), List.mem_of_getElem? (i := 68) (by decide +kernel)⟩
theorem lw_p5 : lw_okq (⟨"TwinPool", "stays", "(I)Z"⟩, 8) := ⟨⟨by decide +kernel, by decide +kernel⟩, List.mem_of_getElem? (i := 12) (by decide +kernel), List.mem_of_getElem? (i := 71) (by decide +kernel), List.mem_of_getElem? (i := 72) (by decide +kernel)⟩
theorem lw_p6 : lw_okq (⟨"TwinPool", "isThere", "(I)Z"⟩, 8) := ⟨⟨by decide +kernel, by decide +kernel⟩, List.mem_of_getElem? (i := 12) (by decide +kernel), List.mem_of_getElem? (i := 75) (by decide +kernel), List.mem_of_getElem? (i := 76) (by decide +kernel)⟩
theorem lw_p7 : lw_okq (⟨"TwinPool", "freePlaces", "(I)I"⟩, 8) := ⟨⟨by decide +kernel, by decide +kernel⟩, List.mem_of_getElem? (i := 12) (by decide +kernel), List.mem_of_getElem? (i := 79) (by decide +kernel), List.mem_of_getElem? (i := 80) (by decide +kernel)⟩
theorem lw_p8 : lw_okq (⟨"TwinPool", "addCopy", "(II)V"⟩, 8) := ⟨⟨by decide +kernel, by decide +kernel⟩, List.mem_of_getElem? (i := 12) (by decide +kernel), List.mem_of_getElem? (i := 83) (by decide +kernel), List.mem_of_getElem? (i := 84) (by decide +kernel)⟩
theorem lw_p9 : lw_okq (⟨"TwinPool", "makeRoomToMend", "()Z"⟩, 8) := ⟨⟨by decide +kernel, by decide +kernel⟩, List.mem_of_getElem? (i := 12) (by decide +kernel), List.mem_of_getElem? (i := 93) (by decide +kernel), List.mem_of_getElem? (i := 94) (by decide +kernel)⟩
theorem lw_p10 : lw_okq (⟨"TwinPool", "staysWithRoom", "(I)Z"⟩, 8) := ⟨⟨by decide +kernel, by decide +kernel⟩, List.mem_of_getElem? (i := 12) (by decide +kernel), List.mem_of_getElem? (i := 97) (by decide +kernel), List.mem_of_getElem? (i := 98) (by decide +kernel)⟩
theorem lw_p11 : lw_okq (⟨"TwinPool", "makeRoomBeside", "(I)I"⟩, 8) := ⟨⟨by decide +kernel, by decide +kernel⟩, List.mem_of_getElem? (i := 12) (by decide +kernel), List.mem_of_getElem? (i := 101) (by decide +kernel), List.mem_of_getElem? (i := 102) (by decide +kernel)⟩
theorem lw_p12 : lw_okq (⟨"TwinPool", "copyForRoom", "(II)I"⟩, 8) := ⟨⟨by decide +kernel, by decide +kernel⟩, List.mem_of_getElem? (i := 12) (by decide +kernel), List.mem_of_getElem? (i := 105) (by decide +kernel), List.mem_of_getElem? (i := 106) (by decide +kernel)⟩
theorem lw_p13 : lw_okq (⟨"TwinPool", "isOn", "(II)Z"⟩, 8) := ⟨⟨by decide +kernel, by decide +kernel⟩, List.mem_of_getElem? (i := 12) (by decide +kernel), List.mem_of_getElem? (i := 109) (by decide +kernel), List.mem_of_getElem? (i := 110) (by decide +kernel)⟩
theorem lw_p14 : lw_okq (⟨"TwinPool", "moveCopy", "(III)V"⟩, 8) := ⟨⟨by decide +kernel, by decide +kernel⟩, List.mem_of_getElem? (i := 12) (by decide +kernel), List.mem_of_getElem? (i := 113) (by decide +kernel), List.mem_of_getElem? (i := 114) (by decide +kernel)⟩
theorem lw_p15 : lw_okq (⟨"TwinPool", "dropCopy", "(II)V"⟩, 8) := ⟨⟨by decide +kernel, by decide +kernel⟩, List.mem_of_getElem? (i := 12) (by decide +kernel), List.mem_of_getElem? (i := 117) (by decide +kernel), List.mem_of_getElem? (i := 118) (by decide +kernel)⟩
def lw_privs_1 : List (MethodName × Nat) := [(⟨"TwinPool", "nextStep", "()I"⟩, 8), (⟨"TwinPool", "mendOne", "()Z"⟩, 8), (⟨"TwinPool", "isDegraded", "(I)Z"⟩, 8), (⟨"TwinPool", "copiesOf", "(I)I"⟩, 8), (⟨"TwinPool", "emptiestBut", "(I)I"⟩, 8), (⟨"TwinPool", "stays", "(I)Z"⟩, 8), (⟨"TwinPool", "isThere", "(I)Z"⟩, 8), (⟨"TwinPool", "freePlaces", "(I)I"⟩, 8), (⟨"TwinPool", "addCopy", "(II)V"⟩, 8), (⟨"TwinPool", "makeRoomToMend", "()Z"⟩, 8), (⟨"TwinPool", "staysWithRoom", "(I)Z"⟩, 8), (⟨"TwinPool", "makeRoomBeside", "(I)I"⟩, 8), (⟨"TwinPool", "copyForRoom", "(II)I"⟩, 8), (⟨"TwinPool", "isOn", "(II)Z"⟩, 8), (⟨"TwinPool", "moveCopy", "(III)V"⟩, 8), (⟨"TwinPool", "dropCopy", "(II)V"⟩, 8)]
theorem lw_r1 : ∀ q ∈ lw_privs_1, lw_okq q := List.forall_mem_cons.mpr ⟨lw_p0, List.forall_mem_cons.mpr ⟨lw_p1, List.forall_mem_cons.mpr ⟨lw_p2, List.forall_mem_cons.mpr ⟨lw_p3, List.forall_mem_cons.mpr ⟨lw_p4, List.forall_mem_cons.mpr ⟨lw_p5, List.forall_mem_cons.mpr ⟨lw_p6, List.forall_mem_cons.mpr ⟨lw_p7, List.forall_mem_cons.mpr ⟨lw_p8, List.forall_mem_cons.mpr ⟨lw_p9, List.forall_mem_cons.mpr ⟨lw_p10, List.forall_mem_cons.mpr ⟨lw_p11, List.forall_mem_cons.mpr ⟨lw_p12, List.forall_mem_cons.mpr ⟨lw_p13, List.forall_mem_cons.mpr ⟨lw_p14, List.forall_mem_cons.mpr ⟨lw_p15, fun _ h => absurd h List.not_mem_nil⟩⟩⟩⟩⟩⟩⟩⟩⟩⟩⟩⟩⟩⟩⟩⟩
theorem lw_p16 : lw_okq (⟨"TwinPool", "otherThan", "(II)I"⟩, 8) := ⟨⟨by decide +kernel, by decide +kernel⟩, List.mem_of_getElem? (i := 12) (by decide +kernel), List.mem_of_getElem? (i := 121) (by decide +kernel), List.mem_of_getElem? (i := 122) (by decide +kernel)⟩
theorem lw_p17 : lw_okq (⟨"TwinPool", "hasLeft", "(I)Z"⟩, 8) := ⟨⟨by decide +kernel, by decide +kernel⟩, List.mem_of_getElem? (i := 12) (by decide +kernel), List.mem_of_getElem? (i := 125) (by decide +kernel), List.mem_of_getElem? (i := 126) (by decide +kernel)⟩
theorem lw_p18 : lw_okq (⟨"TwinPool", "takeAway", "(I)V"⟩, 8) := ⟨⟨by decide +kernel, by decide +kernel⟩, List.mem_of_getElem? (i := 12) (by decide +kernel), List.mem_of_getElem? (i := 129) (by decide +kernel), List.mem_of_getElem? (i := 130) (by decide +kernel)⟩
theorem lw_p19 : lw_okq (⟨"TwinPool", "moveOneOff", "()Z"⟩, 8) := ⟨⟨by decide +kernel, by decide +kernel⟩, List.mem_of_getElem? (i := 12) (by decide +kernel), List.mem_of_getElem? (i := 133) (by decide +kernel), List.mem_of_getElem? (i := 134) (by decide +kernel)⟩
theorem lw_p20 : lw_okq (⟨"TwinPool", "moveOneOffDisk", "(I)Z"⟩, 8) := ⟨⟨by decide +kernel, by decide +kernel⟩, List.mem_of_getElem? (i := 12) (by decide +kernel), List.mem_of_getElem? (i := 137) (by decide +kernel), List.mem_of_getElem? (i := 138) (by decide +kernel)⟩
theorem lw_p21 : lw_okq (⟨"TwinPool", "makeRoomToMoveOff", "()Z"⟩, 8) := ⟨⟨by decide +kernel, by decide +kernel⟩, List.mem_of_getElem? (i := 12) (by decide +kernel), List.mem_of_getElem? (i := 141) (by decide +kernel), List.mem_of_getElem? (i := 142) (by decide +kernel)⟩
theorem lw_p22 : lw_okq (⟨"TwinPool", "otherDiskWithRoom", "(I)I"⟩, 8) := ⟨⟨by decide +kernel, by decide +kernel⟩, List.mem_of_getElem? (i := 12) (by decide +kernel), List.mem_of_getElem? (i := 145) (by decide +kernel), List.mem_of_getElem? (i := 146) (by decide +kernel)⟩
theorem lw_p23 : lw_okq (⟨"java/lang/Throwable", "fillInStackTrace", "(I)Ljava/lang/Throwable;"⟩, 6) := ⟨⟨by decide +kernel, by decide +kernel⟩, List.mem_of_getElem? (i := 198) (by decide +kernel), List.mem_of_getElem? (i := 196) (by decide +kernel), List.mem_of_getElem? (i := 197) (by decide +kernel)⟩
theorem lw_p24 : lw_okq (⟨"TwinPool", "newChunk", "()I"⟩, 8) := ⟨⟨by decide +kernel, by decide +kernel⟩, List.mem_of_getElem? (i := 12) (by decide +kernel), List.mem_of_getElem? (i := 261) (by decide +kernel), List.mem_of_getElem? (i := 262) (by decide +kernel)⟩
theorem lw_p25 : lw_okq (⟨"TwinPool", "leastUnusedNumber", "()I"⟩, 8) := ⟨⟨by decide +kernel, by decide +kernel⟩, List.mem_of_getElem? (i := 12) (by decide +kernel), List.mem_of_getElem? (i := 265) (by decide +kernel), List.mem_of_getElem? (i := 266) (by decide +kernel)⟩
theorem lw_p26 : lw_okq (⟨"TwinPool", "clearWords", "(I)V"⟩, 8) := ⟨⟨by decide +kernel, by decide +kernel⟩, List.mem_of_getElem? (i := 12) (by decide +kernel), List.mem_of_getElem? (i := 269) (by decide +kernel), List.mem_of_getElem? (i := 270) (by decide +kernel)⟩
theorem lw_p27 : lw_okq (⟨"TwinPool", "isChunk", "(I)Z"⟩, 8) := ⟨⟨by decide +kernel, by decide +kernel⟩, List.mem_of_getElem? (i := 12) (by decide +kernel), List.mem_of_getElem? (i := 302) (by decide +kernel), List.mem_of_getElem? (i := 303) (by decide +kernel)⟩
theorem lw_p28 : lw_okq (⟨"TwinPool", "chunksWith", "(I)I"⟩, 8) := ⟨⟨by decide +kernel, by decide +kernel⟩, List.mem_of_getElem? (i := 12) (by decide +kernel), List.mem_of_getElem? (i := 334) (by decide +kernel), List.mem_of_getElem? (i := 335) (by decide +kernel)⟩
theorem lw_p29 : lw_okq (⟨"TwinPool", "allChunks", "()I"⟩, 8) := ⟨⟨by decide +kernel, by decide +kernel⟩, List.mem_of_getElem? (i := 12) (by decide +kernel), List.mem_of_getElem? (i := 338) (by decide +kernel), List.mem_of_getElem? (i := 339) (by decide +kernel)⟩
theorem lw_p30 : lw_okq (⟨"TwinPool", "capacityWithout", "(I)I"⟩, 8) := ⟨⟨by decide +kernel, by decide +kernel⟩, List.mem_of_getElem? (i := 12) (by decide +kernel), List.mem_of_getElem? (i := 342) (by decide +kernel), List.mem_of_getElem? (i := 343) (by decide +kernel)⟩
theorem lw_p31 : lw_okq (⟨"TwinPool", "leastChunkOn", "(I)I"⟩, 8) := ⟨⟨by decide +kernel, by decide +kernel⟩, List.mem_of_getElem? (i := 12) (by decide +kernel), List.mem_of_getElem? (i := 375) (by decide +kernel), List.mem_of_getElem? (i := 376) (by decide +kernel)⟩
def lw_privs_2 : List (MethodName × Nat) := [(⟨"TwinPool", "otherThan", "(II)I"⟩, 8), (⟨"TwinPool", "hasLeft", "(I)Z"⟩, 8), (⟨"TwinPool", "takeAway", "(I)V"⟩, 8), (⟨"TwinPool", "moveOneOff", "()Z"⟩, 8), (⟨"TwinPool", "moveOneOffDisk", "(I)Z"⟩, 8), (⟨"TwinPool", "makeRoomToMoveOff", "()Z"⟩, 8), (⟨"TwinPool", "otherDiskWithRoom", "(I)I"⟩, 8), (⟨"java/lang/Throwable", "fillInStackTrace", "(I)Ljava/lang/Throwable;"⟩, 6), (⟨"TwinPool", "newChunk", "()I"⟩, 8), (⟨"TwinPool", "leastUnusedNumber", "()I"⟩, 8), (⟨"TwinPool", "clearWords", "(I)V"⟩, 8), (⟨"TwinPool", "isChunk", "(I)Z"⟩, 8), (⟨"TwinPool", "chunksWith", "(I)I"⟩, 8), (⟨"TwinPool", "allChunks", "()I"⟩, 8), (⟨"TwinPool", "capacityWithout", "(I)I"⟩, 8), (⟨"TwinPool", "leastChunkOn", "(I)I"⟩, 8)]
theorem lw_r2 : ∀ q ∈ lw_privs_2, lw_okq q := List.forall_mem_cons.mpr ⟨lw_p16, List.forall_mem_cons.mpr ⟨lw_p17, List.forall_mem_cons.mpr ⟨lw_p18, List.forall_mem_cons.mpr ⟨lw_p19, List.forall_mem_cons.mpr ⟨lw_p20, List.forall_mem_cons.mpr ⟨lw_p21, List.forall_mem_cons.mpr ⟨lw_p22, List.forall_mem_cons.mpr ⟨lw_p23, List.forall_mem_cons.mpr ⟨lw_p24, List.forall_mem_cons.mpr ⟨lw_p25, List.forall_mem_cons.mpr ⟨lw_p26, List.forall_mem_cons.mpr ⟨lw_p27, List.forall_mem_cons.mpr ⟨lw_p28, List.forall_mem_cons.mpr ⟨lw_p29, List.forall_mem_cons.mpr ⟨lw_p30, List.forall_mem_cons.mpr ⟨lw_p31, fun _ h => absurd h List.not_mem_nil⟩⟩⟩⟩⟩⟩⟩⟩⟩⟩⟩⟩⟩⟩⟩⟩
theorem lw_p32 : lw_okq (⟨"TwinPool", "disksThere", "()I"⟩, 8) := ⟨⟨by decide +kernel, by decide +kernel⟩, List.mem_of_getElem? (i := 12) (by decide +kernel), List.mem_of_getElem? (i := 386) (by decide +kernel), List.mem_of_getElem? (i := 387) (by decide +kernel)⟩
theorem lw_p33 : lw_okq (⟨"TwinPool", "copiesOnLeaving", "()I"⟩, 8) := ⟨⟨by decide +kernel, by decide +kernel⟩, List.mem_of_getElem? (i := 12) (by decide +kernel), List.mem_of_getElem? (i := 390) (by decide +kernel), List.mem_of_getElem? (i := 391) (by decide +kernel)⟩
theorem lw_p34 : lw_okq (⟨"TwinPoolModel", "newChunk", "()I"⟩, 7) := ⟨⟨by decide +kernel, by decide +kernel⟩, List.mem_of_getElem? (i := 394) (by decide +kernel), List.mem_of_getElem? (i := 430) (by decide +kernel), List.mem_of_getElem? (i := 431) (by decide +kernel)⟩
theorem lw_p35 : lw_okq (⟨"TwinPoolModel", "emptiest", "(II)I"⟩, 7) := ⟨⟨by decide +kernel, by decide +kernel⟩, List.mem_of_getElem? (i := 394) (by decide +kernel), List.mem_of_getElem? (i := 434) (by decide +kernel), List.mem_of_getElem? (i := 435) (by decide +kernel)⟩
theorem lw_p36 : lw_okq (⟨"TwinPoolModel", "stays", "(I)Z"⟩, 7) := ⟨⟨by decide +kernel, by decide +kernel⟩, List.mem_of_getElem? (i := 394) (by decide +kernel), List.mem_of_getElem? (i := 438) (by decide +kernel), List.mem_of_getElem? (i := 439) (by decide +kernel)⟩
theorem lw_p37 : lw_okq (⟨"TwinPoolModel", "freeOn", "(I)I"⟩, 7) := ⟨⟨by decide +kernel, by decide +kernel⟩, List.mem_of_getElem? (i := 394) (by decide +kernel), List.mem_of_getElem? (i := 442) (by decide +kernel), List.mem_of_getElem? (i := 443) (by decide +kernel)⟩
theorem lw_p38 : lw_okq (⟨"TwinPoolModel", "used", "(I)I"⟩, 7) := ⟨⟨by decide +kernel, by decide +kernel⟩, List.mem_of_getElem? (i := 394) (by decide +kernel), List.mem_of_getElem? (i := 446) (by decide +kernel), List.mem_of_getElem? (i := 447) (by decide +kernel)⟩
theorem lw_p39 : lw_okq (⟨"TwinPoolModel", "isOn", "(II)Z"⟩, 7) := ⟨⟨by decide +kernel, by decide +kernel⟩, List.mem_of_getElem? (i := 394) (by decide +kernel), List.mem_of_getElem? (i := 450) (by decide +kernel), List.mem_of_getElem? (i := 451) (by decide +kernel)⟩
theorem lw_p40 : lw_okq (⟨"TwinPoolModel", "makeRoom", "(I)I"⟩, 7) := ⟨⟨by decide +kernel, by decide +kernel⟩, List.mem_of_getElem? (i := 394) (by decide +kernel), List.mem_of_getElem? (i := 454) (by decide +kernel), List.mem_of_getElem? (i := 455) (by decide +kernel)⟩
theorem lw_p41 : lw_okq (⟨"TwinPoolModel", "isChunk", "(I)Z"⟩, 7) := ⟨⟨by decide +kernel, by decide +kernel⟩, List.mem_of_getElem? (i := 394) (by decide +kernel), List.mem_of_getElem? (i := 466) (by decide +kernel), List.mem_of_getElem? (i := 467) (by decide +kernel)⟩
theorem lw_p42 : lw_okq (⟨"TwinPoolModel", "howMany", "(I)I"⟩, 7) := ⟨⟨by decide +kernel, by decide +kernel⟩, List.mem_of_getElem? (i := 394) (by decide +kernel), List.mem_of_getElem? (i := 470) (by decide +kernel), List.mem_of_getElem? (i := 471) (by decide +kernel)⟩
theorem lw_p43 : lw_okq (⟨"TwinPoolModel", "tidy", "()V"⟩, 7) := ⟨⟨by decide +kernel, by decide +kernel⟩, List.mem_of_getElem? (i := 394) (by decide +kernel), List.mem_of_getElem? (i := 474) (by decide +kernel), List.mem_of_getElem? (i := 475) (by decide +kernel)⟩
theorem lw_p44 : lw_okq (⟨"TwinPoolModel", "doStep", "()I"⟩, 7) := ⟨⟨by decide +kernel, by decide +kernel⟩, List.mem_of_getElem? (i := 394) (by decide +kernel), List.mem_of_getElem? (i := 482) (by decide +kernel), List.mem_of_getElem? (i := 483) (by decide +kernel)⟩
theorem lw_p45 : lw_okq (⟨"TwinPoolModel", "copyOne", "()Z"⟩, 7) := ⟨⟨by decide +kernel, by decide +kernel⟩, List.mem_of_getElem? (i := 394) (by decide +kernel), List.mem_of_getElem? (i := 486) (by decide +kernel), List.mem_of_getElem? (i := 487) (by decide +kernel)⟩
theorem lw_p46 : lw_okq (⟨"TwinPoolModel", "roomForOne", "()Z"⟩, 7) := ⟨⟨by decide +kernel, by decide +kernel⟩, List.mem_of_getElem? (i := 394) (by decide +kernel), List.mem_of_getElem? (i := 490) (by decide +kernel), List.mem_of_getElem? (i := 491) (by decide +kernel)⟩
theorem lw_p47 : lw_okq (⟨"TwinPoolModel", "roomFor", "(II)Z"⟩, 7) := ⟨⟨by decide +kernel, by decide +kernel⟩, List.mem_of_getElem? (i := 394) (by decide +kernel), List.mem_of_getElem? (i := 494) (by decide +kernel), List.mem_of_getElem? (i := 495) (by decide +kernel)⟩
def lw_privs_3 : List (MethodName × Nat) := [(⟨"TwinPool", "disksThere", "()I"⟩, 8), (⟨"TwinPool", "copiesOnLeaving", "()I"⟩, 8), (⟨"TwinPoolModel", "newChunk", "()I"⟩, 7), (⟨"TwinPoolModel", "emptiest", "(II)I"⟩, 7), (⟨"TwinPoolModel", "stays", "(I)Z"⟩, 7), (⟨"TwinPoolModel", "freeOn", "(I)I"⟩, 7), (⟨"TwinPoolModel", "used", "(I)I"⟩, 7), (⟨"TwinPoolModel", "isOn", "(II)Z"⟩, 7), (⟨"TwinPoolModel", "makeRoom", "(I)I"⟩, 7), (⟨"TwinPoolModel", "isChunk", "(I)Z"⟩, 7), (⟨"TwinPoolModel", "howMany", "(I)I"⟩, 7), (⟨"TwinPoolModel", "tidy", "()V"⟩, 7), (⟨"TwinPoolModel", "doStep", "()I"⟩, 7), (⟨"TwinPoolModel", "copyOne", "()Z"⟩, 7), (⟨"TwinPoolModel", "roomForOne", "()Z"⟩, 7), (⟨"TwinPoolModel", "roomFor", "(II)Z"⟩, 7)]
theorem lw_r3 : ∀ q ∈ lw_privs_3, lw_okq q := List.forall_mem_cons.mpr ⟨lw_p32, List.forall_mem_cons.mpr ⟨lw_p33, List.forall_mem_cons.mpr ⟨lw_p34, List.forall_mem_cons.mpr ⟨lw_p35, List.forall_mem_cons.mpr ⟨lw_p36, List.forall_mem_cons.mpr ⟨lw_p37, List.forall_mem_cons.mpr ⟨lw_p38, List.forall_mem_cons.mpr ⟨lw_p39, List.forall_mem_cons.mpr ⟨lw_p40, List.forall_mem_cons.mpr ⟨lw_p41, List.forall_mem_cons.mpr ⟨lw_p42, List.forall_mem_cons.mpr ⟨lw_p43, List.forall_mem_cons.mpr ⟨lw_p44, List.forall_mem_cons.mpr ⟨lw_p45, List.forall_mem_cons.mpr ⟨lw_p46, List.forall_mem_cons.mpr ⟨lw_p47, fun _ h => absurd h List.not_mem_nil⟩⟩⟩⟩⟩⟩⟩⟩⟩⟩⟩⟩⟩⟩⟩⟩
theorem lw_p48 : lw_okq (⟨"TwinPoolModel", "leaveOne", "(Z)Z"⟩, 7) := ⟨⟨by decide +kernel, by decide +kernel⟩, List.mem_of_getElem? (i := 394) (by decide +kernel), List.mem_of_getElem? (i := 498) (by decide +kernel), List.mem_of_getElem? (i := 499) (by decide +kernel)⟩
theorem lw_p49 : lw_okq (⟨"TwinPoolModel", "isDisk", "(I)Z"⟩, 7) := ⟨⟨by decide +kernel, by decide +kernel⟩, List.mem_of_getElem? (i := 394) (by decide +kernel), List.mem_of_getElem? (i := 514) (by decide +kernel), List.mem_of_getElem? (i := 515) (by decide +kernel)⟩
theorem lw_p50 : lw_okq (⟨"TwinPoolModel", "countWith", "(I)I"⟩, 7) := ⟨⟨by decide +kernel, by decide +kernel⟩, List.mem_of_getElem? (i := 394) (by decide +kernel), List.mem_of_getElem? (i := 522) (by decide +kernel), List.mem_of_getElem? (i := 523) (by decide +kernel)⟩
theorem lw_p51 : lw_okq (⟨"TwinPoolModel", "chunkCount", "()I"⟩, 7) := ⟨⟨by decide +kernel, by decide +kernel⟩, List.mem_of_getElem? (i := 394) (by decide +kernel), List.mem_of_getElem? (i := 526) (by decide +kernel), List.mem_of_getElem? (i := 527) (by decide +kernel)⟩
theorem lw_p52 : lw_okq (⟨"TwinPoolModel", "capacity", "(I)I"⟩, 7) := ⟨⟨by decide +kernel, by decide +kernel⟩, List.mem_of_getElem? (i := 394) (by decide +kernel), List.mem_of_getElem? (i := 530) (by decide +kernel), List.mem_of_getElem? (i := 531) (by decide +kernel)⟩
def lw_privs_4 : List (MethodName × Nat) := [(⟨"TwinPoolModel", "leaveOne", "(Z)Z"⟩, 7), (⟨"TwinPoolModel", "isDisk", "(I)Z"⟩, 7), (⟨"TwinPoolModel", "countWith", "(I)I"⟩, 7), (⟨"TwinPoolModel", "chunkCount", "()I"⟩, 7), (⟨"TwinPoolModel", "capacity", "(I)I"⟩, 7)]
theorem lw_r4 : ∀ q ∈ lw_privs_4, lw_okq q := List.forall_mem_cons.mpr ⟨lw_p48, List.forall_mem_cons.mpr ⟨lw_p49, List.forall_mem_cons.mpr ⟨lw_p50, List.forall_mem_cons.mpr ⟨lw_p51, List.forall_mem_cons.mpr ⟨lw_p52, fun _ h => absurd h List.not_mem_nil⟩⟩⟩⟩⟩
def lw_privs : List (MethodName × Nat) := lw_privs_1 ++ (lw_privs_2 ++ (lw_privs_3 ++ (lw_privs_4)))
def lw_tbl : List Cond := k2_sels lw_privs ++ tables_1
theorem lw_privs_ok : ∀ q ∈ lw_privs, lw_okq q := by
  show ∀ q ∈ lw_privs_1 ++ (lw_privs_2 ++ (lw_privs_3 ++ (lw_privs_4))), lw_okq q
  exact List.forall_mem_append.mpr ⟨lw_r1, List.forall_mem_append.mpr ⟨lw_r2, List.forall_mem_append.mpr ⟨lw_r3, lw_r4⟩⟩⟩
end
section
section VXA
def vx_T (XC : String → State → State → Prop) (st : State) (q : Addr) (t : State) (mc ms : Nat) (free : Addr → Prop) : Prop :=
  ∃ (E : String) (ce : Cell) (L : List Loc), XC E st t ∧ t.heap[q]? = some ce ∧ ce.vm = .none ∧ st.vm.findClass E = some ce.cls ∧ st.WarmedH t.vm ∧ st.sameButNew ({ t with vm := st.vm } : State) L mc ms ∧ ∀ z ∈ L, free z.base
def vx_Q (Qc : Array Value → State → Outcome → State → Prop) (XC : String → State → State → Prop) (mc ms : Nat) (free : Addr → Prop) : Array Value → State → Outcome → State → Prop := fun a st o t =>
  (Qc a st o t ∧ ∃ L, FrameEnd st o t L mc ms ∧ ∀ q ∈ L, free q.base) ∨ ∃ q, o = .threw q ∧ vx_T XC st q t mc ms free
def vx_Met (l : Launch) (y : MethodName) (ws : List Cond) (rm : Room) (Pc : Array Value → State → Prop) (Qc : Array Value → State → Outcome → State → Prop) (XC : String → State → State → Prop) (mc ms : Nat) (free : Addr → Prop) : Prop :=
  MetFree l y (headSpec ws rm) Pc (fun _ _ _ _ _ => True) (vx_Q Qc XC mc ms free)
def vx_Post (XC : String → State → State → Prop) (mc ms : Nat) (free : Addr → Prop) : Pt → Array Value → Addr → Pt → Prop := fun A a q B =>
  ∃ (g : JFrame) (mk : MethodId) (t : State) (L : List Loc) (E : String) (ce : Cell), B.U.heap = t.heap ∧ B.U.vm = t.vm ∧ XC E (A.U.calling g mk a) t ∧ t.heap[q]? = some ce ∧ ce.vm = .none ∧ A.U.vm.findClass E = some ce.cls ∧ B.locs = A.locs ++ L ∧ (∀ z ∈ L, free z.base) ∧ B.cells = A.cells + mc ∧ B.slots = A.slots + ms
def vx_Back (l : Launch) (R : Room) (p : Program) (e : Env) (below : List Frame) (s : State) (sargs : Array Value) (y : MethodName) (len W9 : Nat)
    (Pre : Pt → Array Value → Prop) (Post : Pt → Array Value → Option Value → Pt → Prop) (PostX : Pt → Array Value → Addr → Pt → Prop) : Prop :=
  ∀ (m : MethodId) (meth : Method) (c : Code) (A : Pt) (g : JFrame) (ig : Instr) (mk : MethodId) (a : Array Value),
    Stand p l e R s m sargs below meth c A.U A.locs A.cells A.slots → g.method = m → g.locals.size = c.maxLocals → decode c.code g.pc = .ok (ig, len) →
    2 * g.monitorRoom + (g.stack.map fun v => v.category).sum ≤ W9 → A.U.methodNamed? y = some mk → Pre A a →
    (∃ (v : Option Value) (B : Pt), Stand p l e R s m sargs below meth c B.U B.locs B.cells B.slots ∧ Post A a v B ∧
      Steps p.tables e below (doInvoke e (A.U.setTop g) [] mk a).1 (B.U.setTop { g with pc := g.pc + len, stack := v.toList ++ g.stack })) ∨
    (∃ (q : Addr) (B : Pt), Stand p l e R s m sargs below meth c B.U B.locs B.cells B.slots ∧ PostX A a q B ∧
      Steps p.tables e below (doInvoke e (A.U.setTop g) [] mk a).1 ((B.U.setTop g).pushFrame (.throwing q)))
section Payer
variable {l : Launch} {R : Room} {p : Program} {e : Env} {below : List Frame} {s : State} {sargs : Array Value} {y : MethodName} {len W9 : Nat}
theorem vx_back {ws : List Cond} {rm : Room} {Pc : Array Value → State → Prop} {Qc : Array Value → State → Outcome → State → Prop} {XC : String → State → State → Prop} {mc ms : Nat} {free : Addr → Prop} {bytes : ByteArray} {maxL : Nat} {ret : Option FieldType}
    (hM : vx_Met l y ws rm Pc Qc XC mc ms free) (hblind : FrameBlind Pc) (hrc : rm.cells = mc) (hrs : rm.slots = ms)
    (hframes : rm.frames + 1 ≤ R.frames) (hlocals : W9 + (maxL + 11) + rm.locals ≤ R.locals)
    (hws : ∀ w ∈ ws, ∀ a' U, s.WarmedH U.vm → w.before a' U = true) (hcode : Cond.code y bytes maxL ret ∈ ws) (hinit : ∀ a' U, s.WarmedH U.vm → (Cond.initialized y.cls).before a' U = true) :
    vx_Back l R p e below s sargs y len W9 (PreOf R mc ms Pc) (PostOf Qc mc ms free) (vx_Post XC mc ms free) := by
  intro m meth c A g ig mk a X hg hsize hdg hW hn hp
  have h1 : (headSpec ws rm).pre.before a A.U = true := atoms_intro fun w hw => hws w hw _ _ X.warmed
  have h2 : (Cond.code y bytes maxL ret).before a A.U = true := hws _ hcode _ _ X.warmed
  have h3 : (Cond.initialized y.cls).before a A.U = true := hinit _ _ X.warmed
  have h4 : A.cells + (headSpec ws rm).room.cells ≤ R.cells := by rw [show (headSpec ws rm).room.cells = mc from hrc]; exact hp.1
  have h5 : A.slots + (headSpec ws rm).room.slots ≤ R.slots := by rw [show (headSpec ws rm).room.slots = ms from hrs]; exact hp.2.1
  have hPc : Pc a (A.U.calling g mk a) := hblind _ _ _ _ hp.2.2
  obtain ⟨U, Ls, c0, s0⟩ := A
  dsimp only [Pt.U, Pt.locs, Pt.cells, Pt.slots] at h1 h2 h3 h4 h5 X hn hPc ⊢
  obtain ⟨methY, cY, hmY, hcY, -, hlY, -, -, -, -⟩ := Cond.code_spec hn h2
  obtain ⟨kY, hkY, -⟩ := className_of_methodNamed hn
  have hinitY : kY.init = .initialized := Cond.initialized_spec (findClass_of_methodNamed hn) hkY h3
  have h : At U g.method c below := by rw [hg]; exact X.here
  have hlocals9 : W9 + (maxL + 11) + (headSpec ws rm).room.locals ≤ R.locals := hlocals
  have happ : (headSpec ws rm).appliesLoose y e.platform (U.calling g mk a) = true :=
    Spec.appliesLoose_calling (g := g) h hdg hn hkY hinitY
      (X.room_calling (g := g) (R' := (headSpec ws rm).room) hsize hmY hcY hframes (by rw [hlY]; omega) h4 h5) h1
  obtain ⟨mid, hmid⟩ := h.above
  have hfr : (U.setTop g).frames = (.java g :: mid) ++ below := by rw [State.frames_setTop' g h.top, hmid]; rfl
  obtain ⟨o, s₂, hsteps, -, hend, hq⟩ := Steps.callFree hM p X.admits X.cas X.clock (acts := []) hfr happ hPc trivial
  have hq' : vx_Q Qc XC mc ms free a (U.calling g mk a) o s₂ := hq
  rw [State.frames_setTop' g h.top] at hend
  obtain ⟨g₀, hg0⟩ := Option.isSome_iff_exists.mp h.top
  obtain ⟨r, hr⟩ := State.topJava?_eq_some.mp hg0
  have hr' : (({ U with heap := s₂.heap, slotsUsed := s₂.slotsUsed } : State).setVm s₂.vm).frames = .java g₀ :: r := hr
  rcases hq' with ⟨hqc, L, hfe, hL⟩ | ⟨q, rfl, E, ce, L, hx, hce, hcv, hcl, hW₂, hsm, hL⟩
  · obtain ⟨⟨v, rfl⟩, hW₂, e2, q2, q3, q4, q5, q6⟩ := id hfe
    have e3 : s₂ = ({ (U.calling g mk a).setFrames s₂.frames with heap := s₂.heap, slotsUsed := s₂.slotsUsed } : State).setVm s₂.vm := by
      have : s₂ = ({ s₂ with vm := (U.calling g mk a).vm } : State).setVm s₂.vm := rfl
      rw [e2] at this
      exact this
    obtain ⟨c₂, i₂, len₂, hc₂, hd₂, hf₂⟩ := hend
    have hW' : U.WarmedH s₂.vm := hW₂
    have hcc : c₂ = c := by
      have h1 : s₂.code? g.method = U.code? g.method := by
        rw [State.code?_eq, State.code?_eq, hW'.alike.method?]
      exact Option.some.inj (hc₂.symm.trans (h1.trans h.code))
    subst hcc
    have hlen : len₂ = len := by rw [hdg] at hd₂; cases hd₂; rfl
    subst hlen
    have hs₂ : s₂ = (({ U with heap := s₂.heap, slotsUsed := s₂.slotsUsed } : State).setVm s₂.vm).setTop { g with pc := g.pc + len₂, stack := v.toList ++ g.stack } := by
      refine e3.trans ?_
      rw [hf₂, State.calling_eq h.top, State.setFrames_setFrames, State.setTop_of_frames _ hr', hr]
      rfl
    have hsame : U.sameButNew ({ U with heap := s₂.heap, slotsUsed := s₂.slotsUsed } : State) L mc ms := by
      refine ⟨?_, q2, q3, q4, q5, q6⟩
      obtain ⟨t, ht, -⟩ := State.frames_cons hr
      show ({ U with heap := s₂.heap, slotsUsed := s₂.slotsUsed } : State) = { U.setFrames U.frames with heap := s₂.heap, slotsUsed := s₂.slotsUsed }
      rw [State.setFrames_self ht]
    subst hg
    refine Or.inl ⟨v, ⟨(({ U with heap := s₂.heap, slotsUsed := s₂.slotsUsed } : State).setVm s₂.vm), Ls ++ L, c0 + mc, s0 + ms⟩,
      ⟨X.admits, X.cas, X.clock, X.frames, X.room, X.hears, X.method, X.code, (X.here.setHeapUsed s₂.heap s₂.slotsUsed).setVm hW'.alike, X.tail, State.WarmedH.trans X.warmed hW', X.limits, X.bytes, X.same.trans (hsame.setVm s.vm)⟩,
      ⟨g, mk, s₂, L, rfl, rfl, hqc, rfl, hL, rfl, rfl⟩, ?_⟩
    show Steps p.tables e below _ ((({ U with heap := s₂.heap, slotsUsed := s₂.slotsUsed } : State).setVm s₂.vm).setTop { g with pc := g.pc + len₂, stack := v.toList ++ g.stack })
    rw [← hs₂]
    exact hsteps
  · obtain ⟨e2, q2, q3, q4, q5, q6⟩ := id hsm
    have e3 : s₂ = ({ (U.calling g mk a).setFrames s₂.frames with heap := s₂.heap, slotsUsed := s₂.slotsUsed } : State).setVm s₂.vm := by
      have : s₂ = ({ s₂ with vm := (U.calling g mk a).vm } : State).setVm s₂.vm := rfl
      rw [e2] at this
      exact this
    have hf₂ : s₂.frames = .throwing q :: .java g :: U.frames.tail := hend
    have hW' : U.WarmedH s₂.vm := hW₂
    have hs₂ : s₂ = ((({ U with heap := s₂.heap, slotsUsed := s₂.slotsUsed } : State).setVm s₂.vm).setTop g).pushFrame (.throwing q) := by
      refine e3.trans ?_
      rw [hf₂, State.calling_eq h.top, State.setFrames_setFrames, State.pushFrame, State.frames_setTop _ hr', State.setTop_of_frames _ hr', State.setFrames_setFrames, hr]
      rfl
    have hsame : U.sameButNew ({ U with heap := s₂.heap, slotsUsed := s₂.slotsUsed } : State) L mc ms := by
      refine ⟨?_, q2, q3, q4, q5, q6⟩
      obtain ⟨t, ht, -⟩ := State.frames_cons hr
      show ({ U with heap := s₂.heap, slotsUsed := s₂.slotsUsed } : State) = { U.setFrames U.frames with heap := s₂.heap, slotsUsed := s₂.slotsUsed }
      rw [State.setFrames_self ht]
    subst hg
    refine Or.inr ⟨q, ⟨(({ U with heap := s₂.heap, slotsUsed := s₂.slotsUsed } : State).setVm s₂.vm), Ls ++ L, c0 + mc, s0 + ms⟩,
      ⟨X.admits, X.cas, X.clock, X.frames, X.room, X.hears, X.method, X.code, (X.here.setHeapUsed s₂.heap s₂.slotsUsed).setVm hW'.alike, X.tail, State.WarmedH.trans X.warmed hW', X.limits, X.bytes, X.same.trans (hsame.setVm s.vm)⟩,
      ⟨g, mk, s₂, L, E, ce, rfl, rfl, hx, hce, hcv, hcl, rfl, hL, rfl, rfl⟩, ?_⟩
    show Steps p.tables e below _ (((({ U with heap := s₂.heap, slotsUsed := s₂.slotsUsed } : State).setVm s₂.vm).setTop g).pushFrame (.throwing q))
    rw [← hs₂]
    exact hsteps
end Payer
section Calls
variable {p : Program} {l : Launch} {e : Env} {R : Room} {s : State} {m : MethodId} {args : Array Value} {below : List Frame} {meth : Method} {c : Code} {T : State} {locs : List Loc} {cells slots : Nat}
theorem vx_callV (X : Stand p l e R s m args below meth c T locs cells slots) (hexec : p.tables.exec = Jvm.exec) {own C : String} {index : Nat} {y : MethodName} {bytes : ByteArray} {maxL : Nat} {ret : Option FieldType}
    (hown : s.vm.findClass own = some m.cls) (hlink : (Cond.methodLink own index y).before args s = true) (hinst : (Cond.instanceMethod y).before args s = true) (hsel : (Cond.selects C y y).before args s = true)
    (hcode : (Cond.code y bytes maxL ret).before args s = true) (hy : y.cls ≠ "java/lang/invoke/MethodHandle" ∧ y.cls ≠ "java/lang/invoke/VarHandle")
    {W9 : Nat} {Pre : Pt → Array Value → Prop} {Post : Pt → Array Value → Option Value → Pt → Prop} {PostX : Pt → Array Value → Addr → Pt → Prop} (hK : vx_Back l R p e below s args y 3 W9 Pre Post PostX)
    {b : Addr} {cellB : Cell} (hcell : T.heap[b]? = some cellB) (hobj : cellB.vm.isStatics = false) (hcls : s.vm.findClass C = some cellB.cls)
    {g : JFrame} (hg : g.method = m) (hsize : g.locals.size = c.maxLocals) {argsL rest : List Value} (hlen : ∀ sig, parseMethodDescriptor y.desc = some sig → argsL.length = sig.parameters.length)
    (hstack : g.stack = argsL.reverse ++ .ref b :: rest) (hW : 2 * g.monitorRoom + (rest.map fun v => v.category).sum ≤ W9) (hdg : decode c.code g.pc = .ok (.invokevirtual index, 3))
    (hpre : ∀ vm₁, s.WarmedH vm₁ → Pre ⟨T.setVm vm₁, locs, cells, slots⟩ (Value.ref b :: argsL).toArray) :
    (∃ (v : Option Value) (vm₁ : Vm) (B : Pt), s.WarmedH vm₁ ∧ Stand p l e R s m args below meth c B.U B.locs B.cells B.slots ∧ Post ⟨T.setVm vm₁, locs, cells, slots⟩ (Value.ref b :: argsL).toArray v B ∧
      ∀ target, Steps p.tables e below (B.U.setTop { g with pc := g.pc + 3, stack := v.toList ++ rest }) target → Steps p.tables e below (T.setTop g) target) ∨
    (∃ (q : Addr) (vm₁ : Vm) (B : Pt), s.WarmedH vm₁ ∧ Stand p l e R s m args below meth c B.U B.locs B.cells B.slots ∧ PostX ⟨T.setVm vm₁, locs, cells, slots⟩ (Value.ref b :: argsL).toArray q B ∧
      Steps p.tables e below (T.setTop g) ((B.U.setTop { g with stack := rest }).pushFrame (.throwing q))) := by
  obtain ⟨mk, methM, hnamed, hmethM, hstM, habM⟩ := Cond.instanceMethod_spec hinst
  obtain ⟨methM', cM, hmethM', -, -, -, -, -, -, hsigM⟩ := Cond.code_spec hnamed hcode
  cases hmethM.symm.trans hmethM'
  obtain ⟨c2, r2, m2, q1, q2, q3, q4, kP, hkP, hkPi⟩ := Cond.selects_spec hsel
  cases hcls.symm.trans q1
  cases (State.methodFound?_of_named hnamed hy).symm.trans q2
  cases hnamed.symm.trans q3
  have hselP : selectMethod e.platform s.vm cellB.cls mk = .method mk := by rw [Launch.admits_selectMethod X.admits]; exact q4
  obtain ⟨vm₁, X₁, hstep₁⟩ := X.invokevirtual hexec hown hlink hnamed hmethM hstM hkP hkPi hy (a := b) (cell := cellB) hcell
    (fun z h => by rw [h] at hobj; cases hobj) hselP hmethM habM hkP hkPi (g := g) hg (argsL := argsL) (rest := rest) (hlen _ hsigM) hstack hdg
  rcases hK m meth c ⟨T.setVm vm₁, locs, cells, slots⟩ { g with stack := rest } (.invokevirtual index) mk (Value.ref b :: argsL).toArray X₁ hg hsize hdg hW (X₁.named hnamed) (hpre vm₁ X₁.warmed) with ⟨v, B, X', hpost, hsteps⟩ | ⟨q, B, X', hpost, hsteps⟩
  · exact Or.inl ⟨v, vm₁, B, X₁.warmed, X', hpost, fun target h => hstep₁ _ fun acts => by rw [doInvoke_state]; exact hsteps.trans h⟩
  · exact Or.inr ⟨q, vm₁, B, X₁.warmed, X', hpost, hstep₁ _ fun acts => by rw [doInvoke_state]; exact hsteps⟩
theorem vx_callS (X : Stand p l e R s m args below meth c T locs cells slots) (hexec : p.tables.exec = Jvm.exec) {own : String} {index : Nat} {y : MethodName} {bytes : ByteArray} {maxL : Nat} {ret : Option FieldType}
    (hown : s.vm.findClass own = some m.cls) (hlink : (Cond.methodLink own index y).before args s = true) (hstat : (Cond.static y).before args s = true) (hinit : (Cond.initialized y.cls).before args s = true)
    (hcode : (Cond.code y bytes maxL ret).before args s = true) (hy : y.cls ≠ "java/lang/invoke/MethodHandle" ∧ y.cls ≠ "java/lang/invoke/VarHandle")
    {W9 : Nat} {Pre : Pt → Array Value → Prop} {Post : Pt → Array Value → Option Value → Pt → Prop} {PostX : Pt → Array Value → Addr → Pt → Prop} (hK : vx_Back l R p e below s args y 3 W9 Pre Post PostX)
    {g : JFrame} (hg : g.method = m) (hsize : g.locals.size = c.maxLocals) {argsL rest : List Value} (hlen : ∀ sig, parseMethodDescriptor y.desc = some sig → argsL.length = sig.parameters.length)
    (hstack : g.stack = argsL.reverse ++ rest) (hW : 2 * g.monitorRoom + (rest.map fun v => v.category).sum ≤ W9) (hdg : decode c.code g.pc = .ok (.invokestatic index, 3))
    (hpre : ∀ vm₁, s.WarmedH vm₁ → Pre ⟨T.setVm vm₁, locs, cells, slots⟩ argsL.toArray) :
    (∃ (v : Option Value) (vm₁ : Vm) (B : Pt), s.WarmedH vm₁ ∧ Stand p l e R s m args below meth c B.U B.locs B.cells B.slots ∧ Post ⟨T.setVm vm₁, locs, cells, slots⟩ argsL.toArray v B ∧
      ∀ target, Steps p.tables e below (B.U.setTop { g with pc := g.pc + 3, stack := v.toList ++ rest }) target → Steps p.tables e below (T.setTop g) target) ∨
    (∃ (q : Addr) (vm₁ : Vm) (B : Pt), s.WarmedH vm₁ ∧ Stand p l e R s m args below meth c B.U B.locs B.cells B.slots ∧ PostX ⟨T.setVm vm₁, locs, cells, slots⟩ argsL.toArray q B ∧
      Steps p.tables e below (T.setTop g) ((B.U.setTop { g with stack := rest }).pushFrame (.throwing q))) := by
  obtain ⟨mk, hnamed⟩ := Cond.code_named hcode
  obtain ⟨methM, cM, hmethM, -, -, -, -, -, -, hsigM⟩ := Cond.code_spec hnamed hcode
  have hstatic : methM.isStatic = true := Cond.static_spec hnamed hmethM hstat
  obtain ⟨kP, hkP, -⟩ := className_of_methodNamed hnamed
  have hinitP : kP.init = .initialized := Cond.initialized_spec (findClass_of_methodNamed hnamed) hkP hinit
  obtain ⟨vm₁, X₁, hstep₁⟩ := X.invokestatic hexec hown hlink hnamed hmethM hstatic hkP hinitP hy (g := g) hg (argsL := argsL) (rest := rest) (hlen _ hsigM) hstack hdg
  rcases hK m meth c ⟨T.setVm vm₁, locs, cells, slots⟩ { g with stack := rest } (.invokestatic index) mk argsL.toArray X₁ hg hsize hdg hW (X₁.named hnamed) (hpre vm₁ X₁.warmed) with ⟨v, B, X', hpost, hsteps⟩ | ⟨q, B, X', hpost, hsteps⟩
  · exact Or.inl ⟨v, vm₁, B, X₁.warmed, X', hpost, fun target h => hstep₁ _ fun acts => by rw [doInvoke_state]; exact hsteps.trans h⟩
  · exact Or.inr ⟨q, vm₁, B, X₁.warmed, X', hpost, hstep₁ _ fun acts => by rw [doInvoke_state]; exact hsteps⟩
end Calls
theorem vx_cls {s : State} {T : State} {vm₁ : Vm} {E : String} {k : ClassId} (hW : s.WarmedH vm₁) (h : (T.setVm vm₁).vm.findClass E = some k) : s.vm.findClass E = some k := by
  have h1 : vm₁.findClass E = some k := h
  rw [hW.alike.findClass] at h1
  exact h1
def vx_W (p : Program) (l : Launch) (e : Env) (R : Room) (s : State) (m : MethodId) (args : Array Value) (below : List Frame) (meth : Method) (c : Code) (H : Heap) (locs : List Loc) (cells slots : Nat) (Q : State → Prop) (g : JFrame) (q : Addr) : Prop :=
  ∀ T : State, T.heap = H → Stand p l e R s m args below meth c T locs cells slots → ∃ t, Steps p.tables e below ((T.setTop g).pushFrame (.throwing q)) t ∧ Q t
def vx_Run (p : Program) (l : Launch) (e : Env) (R : Room) (s : State) (m : MethodId) (args : Array Value) (below : List Frame) (meth : Method) (c : Code) (H : Heap) (locs : List Loc) (cells slots mc ms : Nat) (g : JFrame) (rest : List Value) (Qa : State → Outcome → State → Prop) (XC : String → State → State → Prop) (free : Addr → Prop) : Prop :=
  ∀ T : State, T.heap = H → Stand p l e R s m args below meth c T locs cells slots →
    (∃ (v : Option Value) (st₀ t T' : State) (L : List Loc), st₀.heap = H ∧ Stand p l e R s m args below meth c T' (locs ++ L) (cells + mc) (slots + ms) ∧ (∀ q ∈ L, free q.base) ∧ T'.heap = t.heap ∧ T'.vm = t.vm ∧ Qa st₀ (.returned v) t ∧
      Goes p e below T g T' { g with pc := g.pc + 3, stack := v.toList ++ rest }) ∨
    (∃ (q : Addr) (st₀ t T' : State) (L : List Loc) (E : String) (ce : Cell), st₀.heap = H ∧ Stand p l e R s m args below meth c T' (locs ++ L) (cells + mc) (slots + ms) ∧ (∀ z ∈ L, free z.base) ∧ T'.heap = t.heap ∧ T'.vm = t.vm ∧ XC E st₀ t ∧ t.heap[q]? = some ce ∧ ce.vm = .none ∧ s.vm.findClass E = some ce.cls ∧
      Steps p.tables e below (T.setTop g) ((T'.setTop { g with stack := rest }).pushFrame (.throwing q)))
def vx_X {S : Type} (px : S → Prop) (B : String → S → State → Prop) (A : Nat → Prop) : String → State → State → Prop := fun E st t => ∃ u : S, px u ∧ B E u t ∧ va_F A st t
section Runs
variable {p : Program} {l : Launch} {e : Env} {R : Room} {s : State} {m : MethodId} {args : Array Value} {below : List Frame} {meth : Method} {c : Code} {H : Heap} {locs : List Loc} {cells slots : Nat}
variable {y : MethodName} {bytes cc : ByteArray} {maxL nL mc ms n index : Nat} {ret : Option FieldType} {ws : List Cond} {rm : Room} {Pc : Array Value → State → Prop} {Qc : Array Value → State → Outcome → State → Prop} {XC : String → State → State → Prop} {free : Addr → Prop} {Ts : List Cond} {own C : String} {b : Addr} {As rest : List Value} {g : JFrame}
theorem vx_callBack (cb : CallB R s args own index y bytes maxL ret ws rm mc ms n) (hM : vx_Met l y ws rm Pc Qc XC mc ms free) (hbl : FrameBlind Pc) : vx_Back l R p e below s args y 3 8 (PreOf R mc ms Pc) (PostOf Qc mc ms free) (vx_Post XC mc ms free) := by
  obtain ⟨hrc, hrs, hfr, hlo, hws, hcw, -, hini, -⟩ := cb
  exact vx_back (bytes := bytes) (maxL := maxL) (ret := ret) hM hbl hrc hrs hfr hlo hws hcw (fun a' U hW => word_at hW (Or.inl (by first | rfl | simp [Cond.onTables, Cond.keeps, Cond.steady])) hini)
theorem vx_runV (S : CallFix p m c cc nL s args Ts own) (hM : vx_Met l y ws rm Pc Qc XC mc ms free) (cw : CallW R s args own C index y bytes maxL ret ws rm mc ms n) (hp : PreV s H C b Pc As)
    (hg : g.method = m) (hn : As.length = n) (hsize : g.locals.size = nL) (hstack : g.stack = As.reverse ++ .ref b :: rest) (hW : 2 * g.monitorRoom + (rest.map fun v => v.category).sum ≤ 8) (hdg : decode cc g.pc = .ok (.invokevirtual index, 3)) (hf : cells + mc ≤ R.cells ∧ slots + ms ≤ R.slots) :
    vx_Run p l e R s m args below meth c H locs cells slots mc ms g rest (Qc (Value.ref b :: As).toArray) XC free := by
  have hK : vx_Back l R p e below s args y 3 8 (PreOf R mc ms Pc) (PostOf Qc mc ms free) (vx_Post XC mc ms free) := vx_callBack cw.1 hM hp.1
  obtain ⟨⟨-, -, -, -, -, -, hcode, -, hy, hlen, hl⟩, hin, hse⟩ := cw
  obtain ⟨hx, hb, hml, ho, -⟩ := S
  obtain ⟨-, ⟨cellB, hcB, hoB, hclB⟩, hPc⟩ := hp
  intro T hT X
  rcases vx_callV X hx (C := C) (bytes := bytes) (maxL := maxL) (ret := ret) ho hl hin hse hcode hy hK (by rw [hT]; exact hcB) hoB hclB hg (hsize.trans hml.symm) (argsL := As) (rest := rest) (fun sig h => hn.trans (hlen sig h)) hstack hW (by rw [hb]; exact hdg)
    (fun vm₁ hW₁ => ⟨hf.1, hf.2, hPc (T.setVm vm₁) hT hW₁⟩) with ⟨v, vm₁, ⟨U', l2, c2, s2⟩, hW₁, X', ⟨g', mk, t, L, e1, e2, hq, h1, hL, h2, h3⟩, st⟩ | ⟨q, vm₁, ⟨U', l2, c2, s2⟩, hW₁, X', ⟨g', mk, t, L, E, ce, e1, e2, hq, hce, hcv, hcl, h1, hL, h2, h3⟩, st⟩
  · dsimp only [Pt.U, Pt.locs, Pt.cells, Pt.slots] at X' e1 e2 h1 h2 h3 st
    subst h1; subst h2; subst h3
    exact Or.inl ⟨v, (T.setVm vm₁).calling g' mk (Value.ref b :: As).toArray, t, U', L, hT, X', hL, e1, e2, hq, st⟩
  · dsimp only [Pt.U, Pt.locs, Pt.cells, Pt.slots] at X' e1 e2 h1 h2 h3 st hcl
    subst h1; subst h2; subst h3
    exact Or.inr ⟨q, (T.setVm vm₁).calling g' mk (Value.ref b :: As).toArray, t, U', L, E, ce, hT, X', hL, e1, e2, hq, hce, hcv, vx_cls hW₁ hcl, st⟩
theorem vx_runS (S : CallFix p m c cc nL s args Ts own) (hM : vx_Met l y ws rm Pc Qc XC mc ms free) (cw : CallB R s args own index y bytes maxL ret ws rm mc ms n ∧ (Cond.static y).before args s = true) (hp : PreS s H Pc As)
    (hg : g.method = m) (hn : As.length = n) (hsize : g.locals.size = nL) (hstack : g.stack = As.reverse ++ rest) (hW : 2 * g.monitorRoom + (rest.map fun v => v.category).sum ≤ 8) (hdg : decode cc g.pc = .ok (.invokestatic index, 3)) (hf : cells + mc ≤ R.cells ∧ slots + ms ≤ R.slots) :
    vx_Run p l e R s m args below meth c H locs cells slots mc ms g rest (Qc As.toArray) XC free := by
  have hK : vx_Back l R p e below s args y 3 8 (PreOf R mc ms Pc) (PostOf Qc mc ms free) (vx_Post XC mc ms free) := vx_callBack cw.1 hM hp.1
  obtain ⟨⟨-, -, -, -, -, -, hcode, hini, hy, hlen, hl⟩, hstt⟩ := cw
  obtain ⟨hx, hb, hml, ho, -⟩ := S
  intro T hT X
  rcases vx_callS X hx (bytes := bytes) (maxL := maxL) (ret := ret) ho hl hstt hini hcode hy hK hg (hsize.trans hml.symm) (argsL := As) (rest := rest) (fun sig h => hn.trans (hlen sig h)) hstack hW (by rw [hb]; exact hdg)
    (fun vm₁ hW₁ => ⟨hf.1, hf.2, hp.2 (T.setVm vm₁) hT hW₁⟩) with ⟨v, vm₁, ⟨U', l2, c2, s2⟩, hW₁, X', ⟨g', mk, t, L, e1, e2, hq, h1, hL, h2, h3⟩, st⟩ | ⟨q, vm₁, ⟨U', l2, c2, s2⟩, hW₁, X', ⟨g', mk, t, L, E, ce, e1, e2, hq, hce, hcv, hcl, h1, hL, h2, h3⟩, st⟩
  · dsimp only [Pt.U, Pt.locs, Pt.cells, Pt.slots] at X' e1 e2 h1 h2 h3 st
    subst h1; subst h2; subst h3
    exact Or.inl ⟨v, (T.setVm vm₁).calling g' mk As.toArray, t, U', L, hT, X', hL, e1, e2, hq, st⟩
  · dsimp only [Pt.U, Pt.locs, Pt.cells, Pt.slots] at X' e1 e2 h1 h2 h3 st hcl
    subst h1; subst h2; subst h3
    exact Or.inr ⟨q, (T.setVm vm₁).calling g' mk As.toArray, t, U', L, E, ce, hT, X', hL, e1, e2, hq, hce, hcv, vx_cls hW₁ hcl, st⟩
end Runs
section Rows
variable {p : Program} {l : Launch} {e : Env} {R : Room} {s : State} {m : MethodId} {args : Array Value} {below : List Frame} {meth : Method} {c : Code} {H : Heap} {locs : List Loc} {cells slots : Nat} {Q : State → Prop}
variable {mc ms : Nat} {free : Addr → Prop} {A0 A1 : Nat → Prop} {H0 : Heap} {a : Array Value} {pc : Nat} {ls : Array Slot} {st0 rest : List Value}
theorem vx_keep {st₀ t T' : State} {L : List Loc} (h0 : st₀.heap = H) (e1 : T'.heap = t.heap) (hS : va_S A0 H0 H locs) (hA : ∀ q, q < H.size → A1 q → A0 q) (hf : ∀ q, free q → A0 q) (hL : ∀ q ∈ L, free q.base) (hF : va_F A1 st₀ t) :
    H.size ≤ T'.heap.size ∧ (∀ q : Nat, q < H.size → ¬ A1 q → T'.heap[q]? = H[q]?) ∧ va_S A0 H0 T'.heap (locs ++ L) := by
  obtain ⟨hz, hk⟩ := hF
  rw [h0] at hz hk
  exact ⟨by rw [e1]; exact hz, fun q h1 h2 => by rw [e1]; exact hk q h1 h2,
    ⟨Nat.le_trans hS.1 (by rw [e1]; exact hz), fun q h1 h2 => by rw [e1, hk q (Nat.lt_of_lt_of_le h1 hS.1) (fun z => h2 (hA q (Nat.lt_of_lt_of_le h1 hS.1) z))]; exact hS.2.1 q h1 h2, fun q hq => by
      rcases List.mem_append.mp hq with h | h
      · exact hS.2.2 q h
      · exact hf _ (hL q h)⟩⟩
theorem vx_calli {S SX : Type} {post : Int32 → S → Prop} {px : SX → Prop} {B : S → State → Prop} {BX : String → SX → State → Prop} {AX : Nat → Prop} (hr : vx_Run p l e R s m args below meth c H locs cells slots mc ms (F0 m pc ls st0) rest (va_Qi post B A1 a) (vx_X px BX AX) free) (hS : va_S A0 H0 H locs) (hA : ∀ q, q < H.size → A1 q → A0 q) (hf : ∀ q, free q → A0 q) (hAX : ∀ q, q < H.size → AX q → A0 q)
    (kx : ∀ (E : String) (ce : Cell) (q9 : Addr) (u : SX) (t : State) (H1 : Heap) (locs1 : List Loc), t.heap = H1 → s.vm.Alike t.vm → px u → BX E u t → H.size ≤ H1.size → (∀ q : Nat, q < H.size → ¬ AX q → H1[q]? = H[q]?) → va_S A0 H0 H1 locs1 → H1[q9]? = some ce → ce.vm = .none → s.vm.findClass E = some ce.cls → vx_W p l e R s m args below meth c H1 locs1 (cells + mc) (slots + ms) Q (F0 m pc ls rest) q9)
    (kk : ∀ (r : Int32) (u : S) (t : State) (H1 : Heap) (locs1 : List Loc), t.heap = H1 → s.vm.Alike t.vm → post r u → B u t → H.size ≤ H1.size → (∀ q : Nat, q < H.size → ¬ A1 q → H1[q]? = H[q]?) → va_S A0 H0 H1 locs1 → W p l e R s m args below meth c H1 locs1 (cells + mc) (slots + ms) Q (F0 m (pc + 3) ls (.int r :: rest))) : W p l e R s m args below meth c H locs cells slots Q (F0 m pc ls st0) := by
  intro T hT X
  rcases hr T hT X with ⟨v, st₀, t, T', L, h0, X', hL, e1, e2, ⟨⟨r, u, hv, hp, hb⟩, hF⟩, st⟩ | ⟨q, st₀, t, T', L, E, ce, h0, X', hL, e1, e2, ⟨u, hp, hb, hF⟩, hce, hcv, hcl, st⟩
  · cases hv
    obtain ⟨k1, k2, k3⟩ := vx_keep h0 e1 hS hA hf hL hF
    obtain ⟨t2, a1, b1⟩ := kk r u t T'.heap (locs ++ L) e1.symm (by rw [← e2]; exact X'.warmed.alike) hp hb k1 k2 k3 T' rfl X'
    exact ⟨t2, st t2 a1, b1⟩
  · obtain ⟨k1, k2, k3⟩ := vx_keep h0 e1 hS hAX hf hL hF
    obtain ⟨t2, a1, b1⟩ := kx E ce q u t T'.heap (locs ++ L) e1.symm (by rw [← e2]; exact X'.warmed.alike) hp hb k1 k2 k3 (by rw [e1]; exact hce) hcv hcl T' rfl X'
    exact ⟨t2, st.trans a1, b1⟩
theorem vx_calll {S SX : Type} {post : Int64 → S → Prop} {px : SX → Prop} {B : S → State → Prop} {BX : String → SX → State → Prop} {AX : Nat → Prop} (hr : vx_Run p l e R s m args below meth c H locs cells slots mc ms (F0 m pc ls st0) rest (va_Ql post B A1 a) (vx_X px BX AX) free) (hS : va_S A0 H0 H locs) (hA : ∀ q, q < H.size → A1 q → A0 q) (hf : ∀ q, free q → A0 q) (hAX : ∀ q, q < H.size → AX q → A0 q)
    (kx : ∀ (E : String) (ce : Cell) (q9 : Addr) (u : SX) (t : State) (H1 : Heap) (locs1 : List Loc), t.heap = H1 → s.vm.Alike t.vm → px u → BX E u t → H.size ≤ H1.size → (∀ q : Nat, q < H.size → ¬ AX q → H1[q]? = H[q]?) → va_S A0 H0 H1 locs1 → H1[q9]? = some ce → ce.vm = .none → s.vm.findClass E = some ce.cls → vx_W p l e R s m args below meth c H1 locs1 (cells + mc) (slots + ms) Q (F0 m pc ls rest) q9)
    (kk : ∀ (r : Int64) (u : S) (t : State) (H1 : Heap) (locs1 : List Loc), t.heap = H1 → s.vm.Alike t.vm → post r u → B u t → H.size ≤ H1.size → (∀ q : Nat, q < H.size → ¬ A1 q → H1[q]? = H[q]?) → va_S A0 H0 H1 locs1 → W p l e R s m args below meth c H1 locs1 (cells + mc) (slots + ms) Q (F0 m (pc + 3) ls (.long r :: rest))) : W p l e R s m args below meth c H locs cells slots Q (F0 m pc ls st0) := by
  intro T hT X
  rcases hr T hT X with ⟨v, st₀, t, T', L, h0, X', hL, e1, e2, ⟨⟨r, u, hv, hp, hb⟩, hF⟩, st⟩ | ⟨q, st₀, t, T', L, E, ce, h0, X', hL, e1, e2, ⟨u, hp, hb, hF⟩, hce, hcv, hcl, st⟩
  · cases hv
    obtain ⟨k1, k2, k3⟩ := vx_keep h0 e1 hS hA hf hL hF
    obtain ⟨t2, a1, b1⟩ := kk r u t T'.heap (locs ++ L) e1.symm (by rw [← e2]; exact X'.warmed.alike) hp hb k1 k2 k3 T' rfl X'
    exact ⟨t2, st t2 a1, b1⟩
  · obtain ⟨k1, k2, k3⟩ := vx_keep h0 e1 hS hAX hf hL hF
    obtain ⟨t2, a1, b1⟩ := kx E ce q u t T'.heap (locs ++ L) e1.symm (by rw [← e2]; exact X'.warmed.alike) hp hb k1 k2 k3 (by rw [e1]; exact hce) hcv hcl T' rfl X'
    exact ⟨t2, st.trans a1, b1⟩
theorem vx_callf {S SX : Type} {post : UInt32 → S → Prop} {px : SX → Prop} {B : S → State → Prop} {BX : String → SX → State → Prop} {AX : Nat → Prop} (hr : vx_Run p l e R s m args below meth c H locs cells slots mc ms (F0 m pc ls st0) rest (va_Qf post B A1 a) (vx_X px BX AX) free) (hS : va_S A0 H0 H locs) (hA : ∀ q, q < H.size → A1 q → A0 q) (hf : ∀ q, free q → A0 q) (hAX : ∀ q, q < H.size → AX q → A0 q)
    (kx : ∀ (E : String) (ce : Cell) (q9 : Addr) (u : SX) (t : State) (H1 : Heap) (locs1 : List Loc), t.heap = H1 → s.vm.Alike t.vm → px u → BX E u t → H.size ≤ H1.size → (∀ q : Nat, q < H.size → ¬ AX q → H1[q]? = H[q]?) → va_S A0 H0 H1 locs1 → H1[q9]? = some ce → ce.vm = .none → s.vm.findClass E = some ce.cls → vx_W p l e R s m args below meth c H1 locs1 (cells + mc) (slots + ms) Q (F0 m pc ls rest) q9)
    (kk : ∀ (r : UInt32) (u : S) (t : State) (H1 : Heap) (locs1 : List Loc), t.heap = H1 → s.vm.Alike t.vm → post r u → B u t → H.size ≤ H1.size → (∀ q : Nat, q < H.size → ¬ A1 q → H1[q]? = H[q]?) → va_S A0 H0 H1 locs1 → W p l e R s m args below meth c H1 locs1 (cells + mc) (slots + ms) Q (F0 m (pc + 3) ls (.float r :: rest))) : W p l e R s m args below meth c H locs cells slots Q (F0 m pc ls st0) := by
  intro T hT X
  rcases hr T hT X with ⟨v, st₀, t, T', L, h0, X', hL, e1, e2, ⟨⟨r, u, hv, hp, hb⟩, hF⟩, st⟩ | ⟨q, st₀, t, T', L, E, ce, h0, X', hL, e1, e2, ⟨u, hp, hb, hF⟩, hce, hcv, hcl, st⟩
  · cases hv
    obtain ⟨k1, k2, k3⟩ := vx_keep h0 e1 hS hA hf hL hF
    obtain ⟨t2, a1, b1⟩ := kk r u t T'.heap (locs ++ L) e1.symm (by rw [← e2]; exact X'.warmed.alike) hp hb k1 k2 k3 T' rfl X'
    exact ⟨t2, st t2 a1, b1⟩
  · obtain ⟨k1, k2, k3⟩ := vx_keep h0 e1 hS hAX hf hL hF
    obtain ⟨t2, a1, b1⟩ := kx E ce q u t T'.heap (locs ++ L) e1.symm (by rw [← e2]; exact X'.warmed.alike) hp hb k1 k2 k3 (by rw [e1]; exact hce) hcv hcl T' rfl X'
    exact ⟨t2, st.trans a1, b1⟩
theorem vx_calld {S SX : Type} {post : UInt64 → S → Prop} {px : SX → Prop} {B : S → State → Prop} {BX : String → SX → State → Prop} {AX : Nat → Prop} (hr : vx_Run p l e R s m args below meth c H locs cells slots mc ms (F0 m pc ls st0) rest (va_Qd post B A1 a) (vx_X px BX AX) free) (hS : va_S A0 H0 H locs) (hA : ∀ q, q < H.size → A1 q → A0 q) (hf : ∀ q, free q → A0 q) (hAX : ∀ q, q < H.size → AX q → A0 q)
    (kx : ∀ (E : String) (ce : Cell) (q9 : Addr) (u : SX) (t : State) (H1 : Heap) (locs1 : List Loc), t.heap = H1 → s.vm.Alike t.vm → px u → BX E u t → H.size ≤ H1.size → (∀ q : Nat, q < H.size → ¬ AX q → H1[q]? = H[q]?) → va_S A0 H0 H1 locs1 → H1[q9]? = some ce → ce.vm = .none → s.vm.findClass E = some ce.cls → vx_W p l e R s m args below meth c H1 locs1 (cells + mc) (slots + ms) Q (F0 m pc ls rest) q9)
    (kk : ∀ (r : UInt64) (u : S) (t : State) (H1 : Heap) (locs1 : List Loc), t.heap = H1 → s.vm.Alike t.vm → post r u → B u t → H.size ≤ H1.size → (∀ q : Nat, q < H.size → ¬ A1 q → H1[q]? = H[q]?) → va_S A0 H0 H1 locs1 → W p l e R s m args below meth c H1 locs1 (cells + mc) (slots + ms) Q (F0 m (pc + 3) ls (.double r :: rest))) : W p l e R s m args below meth c H locs cells slots Q (F0 m pc ls st0) := by
  intro T hT X
  rcases hr T hT X with ⟨v, st₀, t, T', L, h0, X', hL, e1, e2, ⟨⟨r, u, hv, hp, hb⟩, hF⟩, st⟩ | ⟨q, st₀, t, T', L, E, ce, h0, X', hL, e1, e2, ⟨u, hp, hb, hF⟩, hce, hcv, hcl, st⟩
  · cases hv
    obtain ⟨k1, k2, k3⟩ := vx_keep h0 e1 hS hA hf hL hF
    obtain ⟨t2, a1, b1⟩ := kk r u t T'.heap (locs ++ L) e1.symm (by rw [← e2]; exact X'.warmed.alike) hp hb k1 k2 k3 T' rfl X'
    exact ⟨t2, st t2 a1, b1⟩
  · obtain ⟨k1, k2, k3⟩ := vx_keep h0 e1 hS hAX hf hL hF
    obtain ⟨t2, a1, b1⟩ := kx E ce q u t T'.heap (locs ++ L) e1.symm (by rw [← e2]; exact X'.warmed.alike) hp hb k1 k2 k3 (by rw [e1]; exact hce) hcv hcl T' rfl X'
    exact ⟨t2, st.trans a1, b1⟩
theorem vx_callv {S SX : Type} {post : S → Prop} {px : SX → Prop} {B : S → State → Prop} {BX : String → SX → State → Prop} {AX : Nat → Prop} (hr : vx_Run p l e R s m args below meth c H locs cells slots mc ms (F0 m pc ls st0) rest (va_Qv post B A1 a) (vx_X px BX AX) free) (hS : va_S A0 H0 H locs) (hA : ∀ q, q < H.size → A1 q → A0 q) (hf : ∀ q, free q → A0 q) (hAX : ∀ q, q < H.size → AX q → A0 q)
    (kx : ∀ (E : String) (ce : Cell) (q9 : Addr) (u : SX) (t : State) (H1 : Heap) (locs1 : List Loc), t.heap = H1 → s.vm.Alike t.vm → px u → BX E u t → H.size ≤ H1.size → (∀ q : Nat, q < H.size → ¬ AX q → H1[q]? = H[q]?) → va_S A0 H0 H1 locs1 → H1[q9]? = some ce → ce.vm = .none → s.vm.findClass E = some ce.cls → vx_W p l e R s m args below meth c H1 locs1 (cells + mc) (slots + ms) Q (F0 m pc ls rest) q9)
    (kk : ∀ (u : S) (t : State) (H1 : Heap) (locs1 : List Loc), t.heap = H1 → s.vm.Alike t.vm → post u → B u t → H.size ≤ H1.size → (∀ q : Nat, q < H.size → ¬ A1 q → H1[q]? = H[q]?) → va_S A0 H0 H1 locs1 → W p l e R s m args below meth c H1 locs1 (cells + mc) (slots + ms) Q (F0 m (pc + 3) ls (rest))) : W p l e R s m args below meth c H locs cells slots Q (F0 m pc ls st0) := by
  intro T hT X
  rcases hr T hT X with ⟨v, st₀, t, T', L, h0, X', hL, e1, e2, ⟨⟨u, hv, hp, hb⟩, hF⟩, st⟩ | ⟨q, st₀, t, T', L, E, ce, h0, X', hL, e1, e2, ⟨u, hp, hb, hF⟩, hce, hcv, hcl, st⟩
  · cases hv
    obtain ⟨k1, k2, k3⟩ := vx_keep h0 e1 hS hA hf hL hF
    obtain ⟨t2, a1, b1⟩ := kk u t T'.heap (locs ++ L) e1.symm (by rw [← e2]; exact X'.warmed.alike) hp hb k1 k2 k3 T' rfl X'
    exact ⟨t2, st t2 a1, b1⟩
  · obtain ⟨k1, k2, k3⟩ := vx_keep h0 e1 hS hAX hf hL hF
    obtain ⟨t2, a1, b1⟩ := kx E ce q u t T'.heap (locs ++ L) e1.symm (by rw [← e2]; exact X'.warmed.alike) hp hb k1 k2 k3 (by rw [e1]; exact hce) hcv hcl T' rfl X'
    exact ⟨t2, st.trans a1, b1⟩
theorem vx_catch {own name : String} {E : String} {ce : Cell} {q : Addr} (hown : s.vm.findClass own = some m.cls) (pre : List ExceptionTableEntry) (x : ExceptionTableEntry) (suf : List ExceptionTableEntry) (hsplit : c.exceptionTable.toList = pre ++ x :: suf)
    (hpass : ∀ z ∈ pre, covers z pc = false ∨ (z.catchType ≠ 0 ∧ ∃ nm : String, (Cond.classLink own z.catchType nm).before args s = true ∧ va_Nc E nm s)) (hx : covers x pc = true) (h0 : x.catchType ≠ 0)
    (hlink : (Cond.classLink own x.catchType name).before args s = true) (hcast : (Cond.castable E name).before args s = true) (hcell : H[q]? = some ce) (hv : ce.vm = .none) (hcl : s.vm.findClass E = some ce.cls)
    (kk : W p l e R s m args below meth c H locs cells slots Q (F0 m x.handlerPc ls [.ref q])) : vx_W p l e R s m args below meth c H locs cells slots Q (F0 m pc ls rest) q := by
  intro T hT X
  have hpl : e.platform.magicAccessors = ({} : Platform).magicAccessors := by rw [X.admits.platform]
  obtain ⟨c3, c4, hc3, hc4, hasg⟩ := Cond.castable_spec hcast
  cases Option.some.inj (hc3.symm.trans hcl)
  obtain ⟨c5, hc5, hcl5⟩ := Cond.classLink_spec hown hlink e.platform hpl
  cases Option.some.inj (hc4.symm.trans hc5)
  obtain ⟨vm', X', st⟩ := X.thenCaughtThrough q (g := F0 m pc ls rest) rfl (Steps.refl _) (by rw [hT]; exact hcell) (by rw [hv]; rfl) (by obtain ⟨k9, h9, -⟩ := Vm.findClass_spec hcl; exact ⟨k9, h9⟩) pre x suf hsplit
    (fun z hz => by
      rcases hpass z hz with h | ⟨hz0, nm, hl1, hn1⟩
      · exact Or.inl h
      · obtain ⟨c6, hc6, hcl6⟩ := Cond.classLink_spec hown hl1 e.platform hpl
        obtain ⟨a8, b8, h1, h2, h3⟩ := hn1
        cases Option.some.inj (h1.symm.trans hcl)
        cases Option.some.inj (h2.symm.trans hc6)
        exact Or.inr ⟨hz0, _, hcl6, h3⟩) hx (Or.inr ⟨h0, c4, hcl5, hasg⟩)
  obtain ⟨t, a1, b1⟩ := kk (T.setVm vm') hT X'
  exact ⟨t, st.trans a1, b1⟩
end Rows
section Ends
variable {p : Program} {l : Launch} {e : Env} {R : Room} {s : State} {m : MethodId} {args : Array Value} {below : List Frame} {meth : Method} {c : Code} {H : Heap} {locs : List Loc} {cells slots : Nat} {Q : State → Prop}
variable {mc ms : Nat} {free : Addr → Prop} {A0 A1 : Nat → Prop} {H0 : Heap} {a : Array Value} {ls : Array Slot} {st0 rest : List Value}
variable {Qc : Array Value → State → Outcome → State → Prop} {XC : String → State → State → Prop}
def vx_MQ (below : List Frame) (Qc : Array Value → State → Outcome → State → Prop) (XC : String → State → State → Prop) (a : Array Value) (s : State) (mc ms : Nat) (free : Addr → Prop) : State → Prop := fun t =>
  ∃ o, t.status = .running ∧ Ended t below o ∧ vx_Q Qc XC mc ms free a s o t
theorem vx_ret {g : JFrame} {mc ms : Nat} (k : W p l e R s m args below meth c H locs cells slots (MQ below Qc args s mc ms free) g) : W p l e R s m args below meth c H locs cells slots (vx_MQ below Qc XC args s mc ms free) g := by
  intro T hT X
  obtain ⟨t, a1, o, b1, b2, b3, b4⟩ := k T hT X
  exact ⟨t, a1, o, b1, b2, Or.inl ⟨b3, b4⟩⟩
theorem vx_widen {g : JFrame} {q : Addr} {k n : Nat} (h1 : cells ≤ k) (h2 : slots ≤ n) (kk : vx_W p l e R s m args below meth c H locs k n Q g q) : vx_W p l e R s m args below meth c H locs cells slots Q g q := fun T hT X => kk T hT (stand_widen X h1 h2)
theorem vx_out {pc : Nat} {E : String} {ce : Cell} {q : Addr} {mc ms : Nat} (hout : ∀ x ∈ c.exceptionTable.toList, covers x pc = false) (hlocks : meth.locks = false) (hcell : H[q]? = some ce) (hv : ce.vm = .none) (hcl : s.vm.findClass E = some ce.cls)
    (hx : ∀ t : State, t.heap = H → s.vm.Alike t.vm → XC E s t) (hf : ∀ z ∈ locs, free z.base) (hc : cells ≤ mc) (hs : slots ≤ ms) :
    vx_W p l e R s m args below meth c H locs cells slots (vx_MQ below Qc XC args s mc ms free) (F0 m pc ls rest) q := by
  intro T hT X
  obtain ⟨st1, hrun, hend, hW, hsm⟩ := X.leaveThrown q (g := F0 m pc ls rest) rfl rfl rfl hout hlocks
  have hcell9 : (T.setFrames (.throwing q :: below)).heap[q]? = some ce := by
    show T.heap[q]? = some ce
    rw [hT]; exact hcell
  exact ⟨_, st1, .threw q, hrun, hend, Or.inr ⟨q, rfl, E, ce, locs, hx _ hT hW.alike, hcell9, hv, hcl, hW, hsm.mono hc hs, hf⟩⟩
theorem vx_frame {U : State} {k n : Nat} (h : s.sameButNew ({ U with vm := s.vm } : State) locs k n) : s.heap.size ≤ U.heap.size ∧ ∀ q : Nat, q < s.heap.size → (∀ z ∈ locs, z.base ≠ q) → U.heap[q]? = s.heap[q]? := by
  obtain ⟨-, h2, -, -, -, h6⟩ := h
  refine ⟨h2, fun q hq hz => ?_⟩
  obtain ⟨c9, e1, e2, e3, e4⟩ := h6 q _ (Array.getElem?_eq_getElem hq)
  have hs : c9.slots = (s.heap[q]).slots := Array.ext_getElem? fun i => e4 i fun hm => hz _ hm rfl
  have h9 : c9 = s.heap[q] := by
    rw [hs] at e2
    exact e2
  have e5 : U.heap[q]? = some c9 := e1
  rw [e5, h9, Array.getElem?_eq_getElem hq]
def vx_no (w : Cond) : Bool := decide (w ≠ .isRef (.static Bundle.tN "UNASSIGNED_STACK" Bundle.steD)) && decide (w ≠ .isRef (.static Bundle.tN "SUPPRESSED_SENTINEL" Bundle.listD)) && decide (w ≠ .laysStatic Bundle.tN "UNASSIGNED_STACK" Bundle.steD) && decide (w ≠ .laysStatic Bundle.tN "SUPPRESSED_SENTINEL" Bundle.listD)
def vx_at0 (own : String) (ic : Nat) (X : String) (names : List String) : List Cond := (Bundle.ownAtoms0 own ic X names).filter vx_no
def vx_atS (own : String) (ic : Nat) (X : String) (names : List String) : List Cond := (Bundle.ownAtoms own ic X names).filter vx_no
def vx_ot (w : Cond) : Bool := w.onTables || goodWord w
theorem vx_ot_at {args a' : Array Value} {s U : State} {w : Cond} (hW : s.WarmedH U.vm) (hvm : s.vm = U.vm) (hg : vx_ot w = true) (h : w.before args s = true) : w.before a' U = true := by
  simp only [vx_ot, Bool.or_eq_true] at hg
  rcases hg with hg | hg
  · exact va_tabs hg hvm h
  · exact word_at hW (good_of_word hg) h
theorem vx_hat {args : Array Value} {s : State} {L B : List Cond} (h1 : ∀ w ∈ L.filter goodWord, w.before args s = true) (h2 : ∀ w ∈ L.filter (fun w => !goodWord w), w ∈ B) (h3 : ∀ w ∈ B, w.before args s = true) : ∀ w ∈ L, w.before args s = true := by
  intro w hw
  by_cases g : goodWord w = true
  · exact h1 w (List.mem_filter.mpr ⟨hw, g⟩)
  · refine h3 w (h2 w (List.mem_filter.mpr ⟨hw, ?_⟩))
    show (!goodWord w) = true
    cases hgw : goodWord w
    · rfl
    · exact absurd hgw g
theorem vx_c {args : Array Value} {s : State} {w : Cond} {B : List Cond} (h : w.before args s = true) (t : ∀ w ∈ B, w.before args s = true) : ∀ w' ∈ w :: B, w'.before args s = true := fun w' h' => (List.mem_cons.mp h').elim (fun e => by rw [e]; exact h) (t w')
theorem vx_n {args : Array Value} {s : State} : ∀ w ∈ ([] : List Cond), w.before args s = true := fun _ h => nomatch h
theorem vx_own {args : Array Value} {s : State} {L : List Cond} (h1 : ∀ w ∈ L.filter vx_no, w.before args s = true)
    (hU : (Cond.isRef (.static Bundle.tN "UNASSIGNED_STACK" Bundle.steD)).before args s = true) (hN : (Cond.isRef (.static Bundle.tN "SUPPRESSED_SENTINEL" Bundle.listD)).before args s = true)
    (lU : (Cond.laysStatic Bundle.tN "UNASSIGNED_STACK" Bundle.steD).before args s = true) (lN : (Cond.laysStatic Bundle.tN "SUPPRESSED_SENTINEL" Bundle.listD).before args s = true) : ∀ w ∈ L, w.before args s = true := by
  intro w hw
  by_cases e1 : w = .isRef (.static Bundle.tN "UNASSIGNED_STACK" Bundle.steD)
  · rw [e1]; exact hU
  · by_cases e2 : w = .isRef (.static Bundle.tN "SUPPRESSED_SENTINEL" Bundle.listD)
    · rw [e2]; exact hN
    · by_cases e3 : w = .laysStatic Bundle.tN "UNASSIGNED_STACK" Bundle.steD
      · rw [e3]; exact lU
      · by_cases e4 : w = .laysStatic Bundle.tN "SUPPRESSED_SENTINEL" Bundle.listD
        · rw [e4]; exact lN
        · exact h1 w (List.mem_filter.mpr ⟨hw, by unfold vx_no; rw [decide_eq_true e1, decide_eq_true e2, decide_eq_true e3, decide_eq_true e4]; rfl⟩)
def vx_L (C n d : String) (A : Nat → Prop) (U : State) (H : Heap) : Prop := ∃ (c : ClassId) (k : Class) (i : Nat) (f : Field) (a : Nat) (cell : Cell), U.vm.findClass C = some c ∧ U.fieldFound? C n d = some (c, k, i, f) ∧ f.isStatic = true ∧ k.statics = some a ∧ H[a]? = some cell ∧ cell.vm.isStatics = true ∧ cell.cls = c ∧ f.slot < cell.slots.size ∧ k.staticTypes[f.slot]? = some f.type ∧ ¬ A a
theorem vx_L.moved {C n d : String} {A : Nat → Prop} {u U : State} {H : Heap} (hvm : u.vm.Alike U.vm) (h : vx_L C n d A u H) : vx_L C n d A U H := by
  obtain ⟨c, k, i, f, a, cell, h1, h2, h3, h4, h5, h6, h7, h8, h9, h10⟩ := h
  obtain ⟨k', hi', he⟩ := State.fieldFound?_setVm hvm h2
  exact ⟨c, k', i, f, a, cell, by rw [hvm.findClass]; exact h1, hi', h3, by rw [he]; exact h4, h5, h6, h7, h8, by rw [he]; exact h9, h10⟩
theorem vx_L.kept {C n d : String} {A : Nat → Prop} {U : State} {H H1 : Heap} (h : vx_L C n d A U H) (hq : ∀ a : Nat, a < H.size → ¬ A a → H1[a]? = H[a]?) : vx_L C n d A U H1 := by
  obtain ⟨c, k, i, f, a, cell, h1, h2, h3, h4, h5, h6, h7, h8, h9, h10⟩ := h
  exact ⟨c, k, i, f, a, cell, h1, h2, h3, h4, by rw [hq a (Array.getElem?_eq_some_iff.mp h5).1 h10]; exact h5, h6, h7, h8, h9, h10⟩
theorem vx_L.narrow {C n d : String} {A B : Nat → Prop} {U : State} {H : Heap} (h : vx_L C n d A U H) (hAB : ∀ q, B q → A q) : vx_L C n d B U H := by
  obtain ⟨c, k, i, f, a, cell, h1, h2, h3, h4, h5, h6, h7, h8, h9, h10⟩ := h
  exact ⟨c, k, i, f, a, cell, h1, h2, h3, h4, h5, h6, h7, h8, h9, fun z => h10 (hAB _ z)⟩
theorem vx_L.word {C n d : String} {A : Nat → Prop} {s : State} {args : Array Value} (h : vx_L C n d A s s.heap) : (Cond.laysStatic C n d).before args s = true := by
  obtain ⟨c, k, i, f, a, cell, h1, h2, h3, h4, h5, h6, h7, h8, h9, -⟩ := h
  show (Cond.laysStatic C n d).holds args s none s [] = true
  exact Cond.laysStatic_of h1 h2 h3 h4 h5 h6 h7 h8 h9
def vx_Zq (C n d : String) (A : Nat → Prop) (U : State) (H : Heap) : Prop := va_Zq C n d A U H ∧ vx_L C n d A U H
theorem vx_Zq.moved {C n d : String} {A : Nat → Prop} {u U : State} {H : Heap} (hvm : u.vm.Alike U.vm) (h : vx_Zq C n d A u H) : vx_Zq C n d A U H := ⟨va_Zq.moved hvm h.1, vx_L.moved hvm h.2⟩
theorem vx_Zq.kept {C n d : String} {A : Nat → Prop} {U : State} {H H1 : Heap} (h : vx_Zq C n d A U H) (hq : ∀ a : Nat, a < H.size → ¬ A a → H1[a]? = H[a]?) : vx_Zq C n d A U H1 := ⟨va_Zq.kept h.1 hq, vx_L.kept h.2 hq⟩
theorem vx_Zq.narrow {C n d : String} {A B : Nat → Prop} {U : State} {H : Heap} (h : vx_Zq C n d A U H) (hAB : ∀ q, B q → A q) : vx_Zq C n d B U H := ⟨va_Zq.narrow h.1 hAB, vx_L.narrow h.2 hAB⟩
theorem vx_Zqof {args : Array Value} {s : State} {C n d : String} {A : Nat → Prop} (hl : (Cond.laysStatic C n d).before args s = true) (hini : (Cond.initialized C).before args s = true) (h : (Cond.isRef (.static C n d)).before args s = true) (hA : ∀ a : Nat, a < s.heap.size → ¬ A a) : vx_Zq C n d A s s.heap := by
  refine ⟨va_Zqof hl hini h hA, ?_⟩
  obtain ⟨c, k, i, f, a, cell, h1, h2, h3, h4, h5, h6, h7, h8, h9⟩ := Cond.laysStatic_spec hl
  exact ⟨c, k, i, f, a, cell, h1, h2, h3, h4, h5, h6, h7, h8, h9, hA a (Array.getElem?_eq_some_iff.mp h5).1⟩
theorem vx_isRef {C n d : String} {v : Value} {A : Nat → Prop} {s : State} {args : Array Value} (h : va_Z C n d v A s s.heap) (hv : v.isRef = true) : (Cond.isRef (.static C n d)).before args s = true := by
  obtain ⟨cf, kf, fi, f, a, cell, h1, h2, h3, h4, h5, h6, h7, -⟩ := h
  have he : (Term.static C n d).eval args s none [] s = some v := by
    simp [Term.eval, State.fieldNamed?, h1, h2, h4, h5, h6, h7]
  simp only [Cond.before, Cond.holds, Cond.value, he]
  cases v <;> simp_all [Value.isRef]
theorem vx_isRefq {C n d : String} {A : Nat → Prop} {s : State} {args : Array Value} (h : va_Zq C n d A s s.heap) : (Cond.isRef (.static C n d)).before args s = true := by
  rcases h with h | ⟨t, h⟩
  · exact vx_isRef h rfl
  · exact vx_isRef h rfl
theorem vx_rebase {T : State} (X : Stand p l e R s m args below meth c T locs cells slots) {R' : Room} (hf : R'.frames ≤ R.frames) (hl : R'.locals ≤ R.locals) (hc : cells + R'.cells ≤ R.cells) (hs : slots + R'.slots ≤ R.slots) :
    Stand p l e R' ((T.setVm s.vm).setFrames (.invoking m args :: below)) m args below meth c T [] 0 0 := by
  have htop : (T.setVm s.vm).topJava?.isSome := X.here.top
  have hF : ((T.setVm s.vm).setFrames (.invoking m args :: below)).frames = .invoking m args :: below := State.frames_setFrames _ (State.cur_lt_of_top htop)
  obtain ⟨g₀, hg0⟩ := Option.isSome_iff_exists.mp htop
  obtain ⟨r, hr⟩ := State.topJava?_eq_some.mp hg0
  have hl9 : e.platform.stackLimits (T.setVm s.vm).me = e.platform.stackLimits s.me := X.limits
  have hb9 : (T.setVm s.vm).me.stackBytes = s.me.stackBytes := X.bytes
  refine ⟨X.admits, X.cas, X.clock, hF, ?_, X.hears, X.method, X.code, X.here, X.tail, X.warmed, ?_, ?_, ?_⟩
  · have h := X.room
    have hU : ((T.setVm s.vm).setFrames (.invoking m args :: below)).localsInUse = s.localsInUse := by
      rw [State.localsInUse_invoking hF (meth := meth) (c := c) X.method X.code, State.localsInUse_invoking X.frames X.method X.code]
    simp only [State.hasRoom, Bool.and_eq_true, decide_eq_true_eq] at h ⊢
    obtain ⟨⟨⟨⟨h1, h2, h3, h4, h5, h6⟩, h7⟩, h8⟩, h9⟩ := h
    rw [X.frames, List.length_cons] at h2 h3
    have q1 := X.heapSize
    have q2 := X.used
    simp only [hF, hU, List.length_cons, State.stackLimits_setFrames, State.stackBytes_setFrames, hl9, hb9]
    refine ⟨⟨⟨⟨by omega, by omega, by omega, by omega, by omega, h6⟩, ?_⟩, ?_⟩, X.book⟩
    · show T.heap.size + R'.cells ≤ e.platform.maxCells
      omega
    · show T.slotsUsed + R'.slots ≤ e.platform.maxSlots
      omega
  · rw [State.stackLimits_setFrames]; rfl
  · rw [State.stackBytes_setFrames]; rfl
  · refine ⟨?_, Nat.le_refl _, Nat.le_refl _, ?_, ?_, fun a c9 h9 => ⟨c9, h9, rfl, rfl, fun _ _ => rfl⟩⟩
    · obtain ⟨t, ht, -⟩ := State.frames_cons hr
      show T.setVm s.vm = { ((T.setVm s.vm).setFrames (.invoking m args :: below)).setFrames (T.setVm s.vm).frames with heap := T.heap, slotsUsed := T.slotsUsed }
      rw [State.setFrames_setFrames, State.setFrames_self ht]
      rfl
    · show T.slotsUsed = T.slotsUsed + ((T.heap.toList.drop T.heap.size).map (·.slots.size)).sum
      rw [List.drop_eq_nil_of_le (Nat.le_of_eq Array.length_toList)]
      rfl
    · show ((T.heap.toList.drop T.heap.size).map (·.slots.size)).sum ≤ 0
      rw [List.drop_eq_nil_of_le (Nat.le_of_eq Array.length_toList)]
      exact Nat.le_refl _
theorem vx_throw0 {cc : ByteArray} {pc : Nat} (hexec : p.tables.exec = Jvm.exec) (hb : c.code = cc) (hl : l.stackTraces = false) {own cls : String} {names : List String} {ik ic mc ms : Nat} {A : Nat → Prop}
    (hown : s.vm.findClass own = some m.cls) (hcls : Bundle.fit cls = true) (hnames : ∀ n ∈ names, Bundle.fit n = true)
    (hk : (Cond.classLink own ik cls).before args s = true) (hini : (Cond.initialized cls).before args s = true) (hat : ∀ w ∈ vx_at0 own ic cls names, w.before args s = true)
    (hgood : ∀ w ∈ Cond.classLink own ik cls :: Cond.initialized cls :: vx_at0 own ic cls names, vx_ot w = true)
    (hU : vx_Zq Bundle.tN "UNASSIGNED_STACK" Bundle.steD A s s.heap) (hN : vx_Zq Bundle.tN "SUPPRESSED_SENTINEL" Bundle.listD A s s.heap) (hS : va_S A s.heap H locs) (hsize : ls.size = c.maxLocals)
    (d0 : decode cc pc = .ok (.new ik, 3)) (d3 : decode cc (pc + 3) = .ok (.dup, 1)) (d4 : decode cc (pc + 4) = .ok (.invokespecial ic, 3)) (d7 : decode cc (pc + 7) = .ok (.athrow, 1))
    (hout : ∀ x ∈ c.exceptionTable.toList, covers x (pc + 7) = false)
    (hRframes : names.length + 3 < R.frames) (hRlocals : (rest.map fun v => v.category).sum + (13 * (names.length + 1) + 42) ≤ R.locals) (hRcells : cells + 1 ≤ R.cells) (hRslots : slots + 6 ≤ R.slots) (hlocks : meth.locks = false)
    (hx : ∀ t : State, s.vm.Alike t.vm → H.size ≤ t.heap.size → (∀ q : Nat, q < H.size → t.heap[q]? = H[q]?) → XC cls s t)
    (hf : ∀ z ∈ locs, free z.base) (hc : cells + 1 ≤ mc) (hs : slots + 6 ≤ ms) :
    W p l e R s m args below meth c H locs cells slots (vx_MQ below Qc XC args s mc ms free) (F0 m pc ls rest) := by
  intro T hT X
  have htr : e.platform.stackTraces = false := (show e.platform.stackTraces = l.stackTraces by rw [X.admits.platform]).trans hl
  have Y := vx_rebase X (R' := { frames := R.frames, locals := R.locals, cells := 1, slots := 6 }) (Nat.le_refl _) (Nat.le_refl _) hRcells hRslots
  obtain ⟨s', hA⟩ : ∃ z, z = (T.setVm s.vm).setFrames (.invoking m args :: below) := ⟨_, rfl⟩
  rw [← hA] at Y
  have hvm : s'.vm = s.vm := by rw [hA]; rfl
  have hhp : s'.heap = H := by rw [hA]; exact hT
  have hW0 : s.WarmedH s'.vm := by rw [hvm]; exact State.WarmedH.refl s
  have hat' : ∀ w ∈ vx_at0 own ic cls names, w.before args s' = true := fun w hw => vx_ot_at hW0 hvm.symm (hgood w (List.mem_cons_of_mem _ (List.mem_cons_of_mem _ hw))) (hat w hw)
  have hk' : (Cond.classLink own ik cls).before args s' = true := vx_ot_at hW0 hvm.symm (hgood _ List.mem_cons_self) hk
  have hini' : (Cond.initialized cls).before args s' = true := vx_ot_at hW0 hvm.symm (hgood _ (List.mem_cons_of_mem _ List.mem_cons_self)) hini
  have hU' : vx_Zq Bundle.tN "UNASSIGNED_STACK" Bundle.steD A s' s'.heap := by rw [hhp]; exact vx_Zq.moved hW0.alike (hU.kept hS.2.1)
  have hN' : vx_Zq Bundle.tN "SUPPRESSED_SENTINEL" Bundle.listD A s' s'.heap := by rw [hhp]; exact vx_Zq.moved hW0.alike (hN.kept hS.2.1)
  have h : ∀ w ∈ Bundle.ownAtoms0 own ic cls names, w.before args s' = true := vx_own hat' (vx_isRefq hU'.1) (vx_isRefq hN'.1) hU'.2.word hN'.2.word
  have hown' : s'.vm.findClass own = some m.cls := by rw [hvm]; exact hown
  have hins : (Cond.instantiable cls 6).before args s' = true := h _ (by simp [Bundle.ownAtoms0])
  obtain ⟨vm₁, cX, kX, hfX, hkX, -, -, X₁, st1⟩ := Y.newCold hexec (own := own) (C := cls) (index := ik) (n := 6) hown' hk' hins hini'
    (g := F0 m pc ls rest) rfl (by rw [hb]; exact d0) (Nat.le_refl _) (Nat.le_refl _)
  generalize hT1 : (T.setVm vm₁).pushCell { cls := cX, slots := kX.instanceTypes.map defaultValue, vm := .none } = T1 at X₁ st1
  have hcat : (Value.ref T.heap.size).category = 1 := rfl
  have hcellA : T1.heap[T.heap.size]? = some (freshCell cX kX) := by rw [← hT1]; exact State.heap_pushCell_size _ _
  have d3' : decode c.code (pc + 3) = .ok (.dup, 1) := by rw [hb]; exact d3
  obtain ⟨U, hsteps, hrun, hend, hW, hsame, ce, hce, hO⟩ := X₁.ctorThrow0 hexec htr (own := own) (cls := cls) (names := names) (ic := ic) hown' hcls hnames h (fun x hx => nomatch hx) hfX hkX hcellA (by rw [hhp, hT]; exact Nat.le_refl _)
    (g := { method := m, pc := pc + 4, locals := ls, stack := .ref T.heap.size :: .ref T.heap.size :: rest, locked := none }) rfl hsize rfl rfl (rest := rest) rfl
    (by rw [hb]; exact d4) (by rw [hb]; exact d7) hout hRframes (by simp only [List.map_cons, List.sum_cons, hcat]; omega) hlocks
  obtain ⟨f1, f2⟩ := vx_frame hsame
  rw [hhp] at f1 f2
  have hWs : s.WarmedH U.vm := State.WarmedH.trans hW0 hW
  have hcl : s.vm.findClass cls = some ce.cls := by
    have h9 := hO.cls
    rw [hvm] at h9
    exact h9
  have hall : s.sameButNew ({ U with vm := s.vm } : State) locs mc ms := by
    subst hA
    obtain ⟨e1, e2⟩ := hsame
    rw [State.setFrames_setFrames] at e1
    have h2 : (T.setVm s.vm).sameButNew ({ U with vm := s.vm } : State) [] (0 + 1) (0 + 6) := ⟨e1, e2⟩
    have h3 := X.same.trans h2
    rw [List.append_nil] at h3
    exact h3.mono hc hs
  refine ⟨U, ?_, .threw T.heap.size, hrun, hend, Or.inr ⟨T.heap.size, rfl, cls, ce, locs, hx U hWs.alike f1 (fun q hq => f2 q hq (fun z hz => nomatch hz)), hce, hO.vm, hcl, hWs, hall, hf⟩⟩
  refine st1 _ ?_
  show Steps p.tables e below (T1.setTop { method := m, pc := pc + 3, locals := ls, stack := .ref T.heap.size :: rest, locked := none }) _
  jvm_step X₁.here [X₁.here.top, hexec, d3', Value.category]
  exact hsteps
theorem vx_throwS {cc : ByteArray} {pc : Nat} (hexec : p.tables.exec = Jvm.exec) (hb : c.code = cc) (hl : l.stackTraces = false) {own cls text : String} {names : List String} {ik is ic mc ms sa : Nat} {A : Nat → Prop}
    (hown : s.vm.findClass own = some m.cls) (hcls : Bundle.fit cls = true) (hnames : ∀ n ∈ names, Bundle.fit n = true)
    (hk : (Cond.classLink own ik cls).before args s = true) (hini : (Cond.initialized cls).before args s = true) (hstr : vk_R own is text sa s) (hat : ∀ w ∈ vx_atS own ic cls names, w.before args s = true)
    (hgood : ∀ w ∈ Cond.classLink own ik cls :: Cond.initialized cls :: vx_atS own ic cls names, vx_ot w = true)
    (hU : vx_Zq Bundle.tN "UNASSIGNED_STACK" Bundle.steD A s s.heap) (hN : vx_Zq Bundle.tN "SUPPRESSED_SENTINEL" Bundle.listD A s s.heap) (hS : va_S A s.heap H locs) (hsize : ls.size = c.maxLocals)
    (d0 : decode cc pc = .ok (.new ik, 3)) (d3 : decode cc (pc + 3) = .ok (.dup, 1)) (d4 : decode cc (pc + 4) = .ok (.ldc is, 2)) (d6 : decode cc (pc + 6) = .ok (.invokespecial ic, 3)) (d9 : decode cc (pc + 9) = .ok (.athrow, 1))
    (hout : ∀ x ∈ c.exceptionTable.toList, covers x (pc + 9) = false)
    (hRframes : names.length + 3 < R.frames) (hRlocals : (rest.map fun v => v.category).sum + (13 * (names.length + 1) + 43) ≤ R.locals) (hRcells : cells + 1 ≤ R.cells) (hRslots : slots + 6 ≤ R.slots) (hlocks : meth.locks = false)
    (hx : ∀ t : State, s.vm.Alike t.vm → H.size ≤ t.heap.size → (∀ q : Nat, q < H.size → t.heap[q]? = H[q]?) → XC cls s t)
    (hf : ∀ z ∈ locs, free z.base) (hc : cells + 1 ≤ mc) (hs : slots + 6 ≤ ms) :
    W p l e R s m args below meth c H locs cells slots (vx_MQ below Qc XC args s mc ms free) (F0 m pc ls rest) := by
  intro T hT X
  have htr : e.platform.stackTraces = false := (show e.platform.stackTraces = l.stackTraces by rw [X.admits.platform]).trans hl
  have Y := vx_rebase X (R' := { frames := R.frames, locals := R.locals, cells := 1, slots := 6 }) (Nat.le_refl _) (Nat.le_refl _) hRcells hRslots
  obtain ⟨s', hA⟩ : ∃ z, z = (T.setVm s.vm).setFrames (.invoking m args :: below) := ⟨_, rfl⟩
  rw [← hA] at Y
  have hvm : s'.vm = s.vm := by rw [hA]; rfl
  have hhp : s'.heap = H := by rw [hA]; exact hT
  have hW0 : s.WarmedH s'.vm := by rw [hvm]; exact State.WarmedH.refl s
  have hat' : ∀ w ∈ vx_atS own ic cls names, w.before args s' = true := fun w hw => vx_ot_at hW0 hvm.symm (hgood w (List.mem_cons_of_mem _ (List.mem_cons_of_mem _ hw))) (hat w hw)
  have hk' : (Cond.classLink own ik cls).before args s' = true := vx_ot_at hW0 hvm.symm (hgood _ List.mem_cons_self) hk
  have hini' : (Cond.initialized cls).before args s' = true := vx_ot_at hW0 hvm.symm (hgood _ (List.mem_cons_of_mem _ List.mem_cons_self)) hini
  have hU' : vx_Zq Bundle.tN "UNASSIGNED_STACK" Bundle.steD A s' s'.heap := by rw [hhp]; exact vx_Zq.moved hW0.alike (hU.kept hS.2.1)
  have hN' : vx_Zq Bundle.tN "SUPPRESSED_SENTINEL" Bundle.listD A s' s'.heap := by rw [hhp]; exact vx_Zq.moved hW0.alike (hN.kept hS.2.1)
  have h : ∀ w ∈ Bundle.ownAtoms own ic cls names, w.before args s' = true := vx_own hat' (vx_isRefq hU'.1) (vx_isRefq hN'.1) hU'.2.word hN'.2.word
  have hown' : s'.vm.findClass own = some m.cls := by rw [hvm]; exact hown
  have hins : (Cond.instantiable cls 6).before args s' = true := h _ (by simp [Bundle.ownAtoms])
  obtain ⟨vm₁, cX, kX, hfX, hkX, -, -, X₁, st1⟩ := Y.newCold hexec (own := own) (C := cls) (index := ik) (n := 6) hown' hk' hins hini'
    (g := F0 m pc ls rest) rfl (by rw [hb]; exact d0) (Nat.le_refl _) (Nat.le_refl _)
  generalize hT1 : (T.setVm vm₁).pushCell { cls := cX, slots := kX.instanceTypes.map defaultValue, vm := .none } = T1 at X₁ st1
  have hcat : (Value.ref T.heap.size).category = 1 := rfl
  have hcellA : T1.heap[T.heap.size]? = some (freshCell cX kX) := by rw [← hT1]; exact State.heap_pushCell_size _ _
  have d3' : decode c.code (pc + 3) = .ok (.dup, 1) := by rw [hb]; exact d3
  have d4' : decode c.code (pc + 4) = .ok (.ldc is, 2) := by rw [hb]; exact d4
  have hstr' : vk_R own is text sa s' := vk_R.warm hW0 hstr
  obtain ⟨U, hsteps, hrun, hend, hW, hsame, ce, hce, hO⟩ := X₁.ctorThrowS hexec htr (own := own) (cls := cls) (names := names) (ic := ic) hown' hcls hnames h (fun x hx => nomatch hx) hfX hkX hcellA (by rw [hhp, hT]; exact Nat.le_refl _) (msg := .ref sa) rfl
    (g := { method := m, pc := pc + 6, locals := ls, stack := .ref sa :: .ref T.heap.size :: .ref T.heap.size :: rest, locked := none }) rfl hsize rfl rfl (rest := rest) rfl
    (by rw [hb]; exact d6) (by rw [hb]; exact d9) hout hRframes (by simp only [List.map_cons, List.sum_cons, hcat]; omega) hlocks
  obtain ⟨f1, f2⟩ := vx_frame hsame
  rw [hhp] at f1 f2
  have hWs : s.WarmedH U.vm := State.WarmedH.trans hW0 hW
  have hcl : s.vm.findClass cls = some ce.cls := by
    have h9 := hO.cls
    rw [hvm] at h9
    exact h9
  have hall : s.sameButNew ({ U with vm := s.vm } : State) locs mc ms := by
    subst hA
    obtain ⟨e1, e2⟩ := hsame
    rw [State.setFrames_setFrames] at e1
    have h2 : (T.setVm s.vm).sameButNew ({ U with vm := s.vm } : State) [] (0 + 1) (0 + 6) := ⟨e1, e2⟩
    have h3 := X.same.trans h2
    rw [List.append_nil] at h3
    exact h3.mono hc hs
  refine ⟨U, ?_, .threw T.heap.size, hrun, hend, Or.inr ⟨T.heap.size, rfl, cls, ce, locs, hx U hWs.alike f1 (fun q hq => f2 q hq (fun z hz => nomatch hz)), hce, hO.vm, hcl, hWs, hall, hf⟩⟩
  refine st1 _ ?_
  show Steps p.tables e below (T1.setTop { method := m, pc := pc + 3, locals := ls, stack := .ref T.heap.size :: rest, locked := none }) _
  jvm_step X₁.here [X₁.here.top, hexec, d3', Value.category]
  exact X₁.ldcString hexec (own := own) (text := text) (index := is) (a := sa) hown' hstr'.1 hstr'.2
    (g := { method := m, pc := pc + 4, locals := ls, stack := .ref T.heap.size :: .ref T.heap.size :: rest, locked := none }) rfl d4' _ hsteps
theorem vx_throwSW {cc : ByteArray} {pc : Nat} (hexec : p.tables.exec = Jvm.exec) (hb : c.code = cc) (hl : l.stackTraces = false) {own cls text : String} {names : List String} {ik is ic mc ms sa : Nat} {A : Nat → Prop}
    (hown : s.vm.findClass own = some m.cls) (hcls : Bundle.fit cls = true) (hnames : ∀ n ∈ names, Bundle.fit n = true)
    (hk : (Cond.classLink own ik cls).before args s = true) (hini : (Cond.initialized cls).before args s = true) (hstr : vk_R own is text sa s) (hat : ∀ w ∈ vx_atS own ic cls names, w.before args s = true)
    (hgood : ∀ w ∈ Cond.classLink own ik cls :: Cond.initialized cls :: vx_atS own ic cls names, vx_ot w = true)
    (hU : vx_Zq Bundle.tN "UNASSIGNED_STACK" Bundle.steD A s s.heap) (hN : vx_Zq Bundle.tN "SUPPRESSED_SENTINEL" Bundle.listD A s s.heap) (hS : va_S A s.heap H locs) (hsize : ls.size = c.maxLocals)
    (d0 : decode cc pc = .ok (.new ik, 3)) (d3 : decode cc (pc + 3) = .ok (.dup, 1)) (d4 : decode cc (pc + 4) = .ok (.ldc_w is, 3)) (d7 : decode cc (pc + 7) = .ok (.invokespecial ic, 3)) (d10 : decode cc (pc + 10) = .ok (.athrow, 1))
    (hout : ∀ x ∈ c.exceptionTable.toList, covers x (pc + 10) = false)
    (hRframes : names.length + 3 < R.frames) (hRlocals : (rest.map fun v => v.category).sum + (13 * (names.length + 1) + 43) ≤ R.locals) (hRcells : cells + 1 ≤ R.cells) (hRslots : slots + 6 ≤ R.slots) (hlocks : meth.locks = false)
    (hx : ∀ t : State, s.vm.Alike t.vm → H.size ≤ t.heap.size → (∀ q : Nat, q < H.size → t.heap[q]? = H[q]?) → XC cls s t)
    (hf : ∀ z ∈ locs, free z.base) (hc : cells + 1 ≤ mc) (hs : slots + 6 ≤ ms) :
    W p l e R s m args below meth c H locs cells slots (vx_MQ below Qc XC args s mc ms free) (F0 m pc ls rest) := by
  intro T hT X
  have htr : e.platform.stackTraces = false := (show e.platform.stackTraces = l.stackTraces by rw [X.admits.platform]).trans hl
  have Y := vx_rebase X (R' := { frames := R.frames, locals := R.locals, cells := 1, slots := 6 }) (Nat.le_refl _) (Nat.le_refl _) hRcells hRslots
  obtain ⟨s', hA⟩ : ∃ z, z = (T.setVm s.vm).setFrames (.invoking m args :: below) := ⟨_, rfl⟩
  rw [← hA] at Y
  have hvm : s'.vm = s.vm := by rw [hA]; rfl
  have hhp : s'.heap = H := by rw [hA]; exact hT
  have hW0 : s.WarmedH s'.vm := by rw [hvm]; exact State.WarmedH.refl s
  have hat' : ∀ w ∈ vx_atS own ic cls names, w.before args s' = true := fun w hw => vx_ot_at hW0 hvm.symm (hgood w (List.mem_cons_of_mem _ (List.mem_cons_of_mem _ hw))) (hat w hw)
  have hk' : (Cond.classLink own ik cls).before args s' = true := vx_ot_at hW0 hvm.symm (hgood _ List.mem_cons_self) hk
  have hini' : (Cond.initialized cls).before args s' = true := vx_ot_at hW0 hvm.symm (hgood _ (List.mem_cons_of_mem _ List.mem_cons_self)) hini
  have hU' : vx_Zq Bundle.tN "UNASSIGNED_STACK" Bundle.steD A s' s'.heap := by rw [hhp]; exact vx_Zq.moved hW0.alike (hU.kept hS.2.1)
  have hN' : vx_Zq Bundle.tN "SUPPRESSED_SENTINEL" Bundle.listD A s' s'.heap := by rw [hhp]; exact vx_Zq.moved hW0.alike (hN.kept hS.2.1)
  have h : ∀ w ∈ Bundle.ownAtoms own ic cls names, w.before args s' = true := vx_own hat' (vx_isRefq hU'.1) (vx_isRefq hN'.1) hU'.2.word hN'.2.word
  have hown' : s'.vm.findClass own = some m.cls := by rw [hvm]; exact hown
  have hins : (Cond.instantiable cls 6).before args s' = true := h _ (by simp [Bundle.ownAtoms])
  obtain ⟨vm₁, cX, kX, hfX, hkX, -, -, X₁, st1⟩ := Y.newCold hexec (own := own) (C := cls) (index := ik) (n := 6) hown' hk' hins hini'
    (g := F0 m pc ls rest) rfl (by rw [hb]; exact d0) (Nat.le_refl _) (Nat.le_refl _)
  generalize hT1 : (T.setVm vm₁).pushCell { cls := cX, slots := kX.instanceTypes.map defaultValue, vm := .none } = T1 at X₁ st1
  have hcat : (Value.ref T.heap.size).category = 1 := rfl
  have hcellA : T1.heap[T.heap.size]? = some (freshCell cX kX) := by rw [← hT1]; exact State.heap_pushCell_size _ _
  have d3' : decode c.code (pc + 3) = .ok (.dup, 1) := by rw [hb]; exact d3
  have d4' : decode c.code (pc + 4) = .ok (.ldc_w is, 3) := by rw [hb]; exact d4
  have hstr' : vk_R own is text sa s' := vk_R.warm hW0 hstr
  obtain ⟨U, hsteps, hrun, hend, hW, hsame, ce, hce, hO⟩ := X₁.ctorThrowS hexec htr (own := own) (cls := cls) (names := names) (ic := ic) hown' hcls hnames h (fun x hx => nomatch hx) hfX hkX hcellA (by rw [hhp, hT]; exact Nat.le_refl _) (msg := .ref sa) rfl
    (g := { method := m, pc := pc + 7, locals := ls, stack := .ref sa :: .ref T.heap.size :: .ref T.heap.size :: rest, locked := none }) rfl hsize rfl rfl (rest := rest) rfl
    (by rw [hb]; exact d7) (by rw [hb]; exact d10) hout hRframes (by simp only [List.map_cons, List.sum_cons, hcat]; omega) hlocks
  obtain ⟨f1, f2⟩ := vx_frame hsame
  rw [hhp] at f1 f2
  have hWs : s.WarmedH U.vm := State.WarmedH.trans hW0 hW
  have hcl : s.vm.findClass cls = some ce.cls := by
    have h9 := hO.cls
    rw [hvm] at h9
    exact h9
  have hall : s.sameButNew ({ U with vm := s.vm } : State) locs mc ms := by
    subst hA
    obtain ⟨e1, e2⟩ := hsame
    rw [State.setFrames_setFrames] at e1
    have h2 : (T.setVm s.vm).sameButNew ({ U with vm := s.vm } : State) [] (0 + 1) (0 + 6) := ⟨e1, e2⟩
    have h3 := X.same.trans h2
    rw [List.append_nil] at h3
    exact h3.mono hc hs
  refine ⟨U, ?_, .threw T.heap.size, hrun, hend, Or.inr ⟨T.heap.size, rfl, cls, ce, locs, hx U hWs.alike f1 (fun q hq => f2 q hq (fun z hz => nomatch hz)), hce, hO.vm, hcl, hWs, hall, hf⟩⟩
  refine st1 _ ?_
  show Steps p.tables e below (T1.setTop { method := m, pc := pc + 3, locals := ls, stack := .ref T.heap.size :: rest, locked := none }) _
  jvm_step X₁.here [X₁.here.top, hexec, d3', Value.category]
  exact X₁.ldcStringW hexec (own := own) (text := text) (index := is) (a := sa) hown' hstr'.1 hstr'.2
    (g := { method := m, pc := pc + 4, locals := ls, stack := .ref T.heap.size :: .ref T.heap.size :: rest, locked := none }) rfl d4' _ hsteps
end Ends
section Bodies
variable {l : Launch}
theorem vx_ofW {y : MethodName} {ws ws' : List Cond} {rm : Room} {Pc : Array Value → State → Prop} {Qc : Array Value → State → Outcome → State → Prop} {XC : String → State → State → Prop} {mc ms : Nat} {free : Addr → Prop} {cc : ByteArray} {maxL : Nat} {ret : Option FieldType}
    (hy : plainName y.cls = true) (hw : ws = Cond.code y cc maxL ret :: ws')
    (body : ∀ p e s m args below meth c s₁, BodyLoose p l y (headSpec ws rm) cc maxL ret e s m args below meth c s₁ → c.maxLocals = maxL → (∀ x ∈ c.exceptionTable.toList, False) → Pc args s →
      W p l e (headSpec ws rm).room s m args below meth c s.heap [] 0 0 (vx_MQ below Qc XC args s mc ms free) (entryFrame m args maxL)) : vx_Met l y ws rm Pc Qc XC mc ms free := by
  refine MetFree.of_bodyS (code := cc) (maxLocals := maxL) (ret := ret) hy ?_ ?_
  · intro args s m h hn
    obtain ⟨meth, c, h1, h2, h3, h4, h5, h6, -, -⟩ := Cond.code_spec hn (atoms_spec (ws := ws) h _ (by rw [hw]; exact List.mem_cons_self))
    exact ⟨meth, c, h1, h2, h3, h4, h5, h6⟩
  · intro p e s m args below meth c s₁ B hml hP _
    have hh0 : s₁.heap = s.heap := by rw [B.state]; rfl
    have ht : ∀ x ∈ c.exceptionTable.toList, False := by
      obtain ⟨meth9, c9, h1, h2, -, -, -, -, h7, -⟩ := Cond.code_spec B.named (atoms_spec (ws := ws) B.pre _ (by rw [hw]; exact List.mem_cons_self))
      cases Option.some.inj (h1.symm.trans B.method)
      cases Option.some.inj (h2.symm.trans (Stand.of_body B).code)
      intro x hx
      rw [Array.isEmpty_iff.mp h7] at hx
      cases hx
    obtain ⟨t, a1, o, b1, b2, b3⟩ := body p e s m args below meth c s₁ B hml ht hP s₁ hh0 (Stand.of_body B)
    exact ⟨t, o, a1, b1, b2, b3⟩
theorem vx_table {p : Program} {x y : MethodName} {S : Spec} {cc bytes : ByteArray} {maxL maxL' : Nat} {ret ret' : Option FieldType} {e : Env} {s s₁ : State} {m : MethodId} {args : Array Value} {below : List Frame} {meth : Method} {c : Code} {hh : List (Nat × Nat × Nat × Nat)}
    (B : BodyLoose p l y S cc maxL ret e s m args below meth c s₁) (h : (Cond.codeWith y bytes maxL' ret' hh).before args s = true) : c.exceptionTable.toList = tableOf hh := by
  obtain ⟨m9, meth9, c9, hn9, h1, h2, -, -, h6, -⟩ := Cond.codeWith_spec h
  cases Option.some.inj (hn9.symm.trans B.named)
  cases Option.some.inj (h1.symm.trans B.method)
  cases Option.some.inj (h2.symm.trans (Stand.of_body B).code)
  rw [← h6, table_eq]
end Bodies
end VXA
section VXS
variable {p : Program} {l : Launch} {e : Env} {R : Room} {s : State} {m : MethodId} {args : Array Value} {below : List Frame} {meth : Method} {c : Code} {T : State} {H : Heap} {locs : List Loc} {cells slots : Nat}
abbrev vx_CSW (R : Room) (s : State) (args : Array Value) (own : String) (index : Nat) (y : MethodName) (bytes : ByteArray) (maxL : Nat) (ret : Option FieldType) (hh : List (Nat × Nat × Nat × Nat)) (ws : List Cond) (rm : Room) (mc ms n : Nat) : Prop :=
  (rm.cells = mc ∧ rm.slots = ms ∧ rm.frames + 1 ≤ R.frames ∧ 8 + (maxL + 11) + rm.locals ≤ R.locals ∧ (∀ w ∈ ws, ∀ (a' : Array Value) (U : State), s.WarmedH U.vm → w.before a' U = true) ∧ Cond.codeWith y bytes maxL ret hh ∈ ws) ∧
  (Cond.codeWith y bytes maxL ret hh).before args s = true ∧ (Cond.initialized y.cls).before args s = true ∧ (y.cls ≠ "java/lang/invoke/MethodHandle" ∧ y.cls ≠ "java/lang/invoke/VarHandle") ∧
  (∀ sig, parseMethodDescriptor y.desc = some sig → n = sig.parameters.length) ∧ (Cond.methodLink own index y).before args s = true ∧ (Cond.static y).before args s = true
theorem vx_cwSW {own : String} {index maxL mc ms : Nat} {y : MethodName} {bytes : ByteArray} {ret : Option FieldType} {hh : List (Nat × Nat × Nat × Nat)} {Ts ws ws' : List Cond} {rm : Room} (n : Nat) (ht : ∀ w ∈ Ts, w.before args s = true) (hT : GoodIn Ts (va_wsS own index y ws)) (hw : ws = Cond.codeWith y bytes maxL ret hh :: ws') (hrc : rm.cells = mc) (hrs : rm.slots = ms)
    (hd : y.cls ≠ "java/lang/invoke/MethodHandle" ∧ y.cls ≠ "java/lang/invoke/VarHandle" ∧ (parseMethodDescriptor y.desc).map (fun d => d.parameters.length) = some n) (hR : rm.frames + 1 ≤ R.frames ∧ 8 + (maxL + 11) + rm.locals ≤ R.locals) :
    vx_CSW R s args own index y bytes maxL ret hh ws rm mc ms n := by
  have ok : ∀ w ∈ va_wsS own index y ws, w.before args s = true := fun w h => ht w (hT w h).1
  have hG : GoodIn Ts ws := fun w h => hT w (by unfold va_wsS; exact List.mem_append_right _ h)
  have hc : Cond.codeWith y bytes maxL ret hh ∈ ws := by rw [hw]; exact List.mem_cons_self
  refine ⟨⟨hrc, hrs, hR.1, hR.2, pay_in ht hG, hc⟩, ht _ (hG _ hc).1, ok _ (by simp [va_wsS]), ⟨hd.1, hd.2.1⟩, fun sig h => ?_, ok _ (by simp [va_wsS]), ok _ (by simp [va_wsS])⟩
  have h2 := hd.2.2
  rw [h] at h2
  exact (Option.some.inj h2).symm
theorem vx_callSW (X : Stand p l e R s m args below meth c T locs cells slots) (hexec : p.tables.exec = Jvm.exec) {own : String} {index : Nat} {y : MethodName} {bytes : ByteArray} {maxL : Nat} {ret : Option FieldType} {hh : List (Nat × Nat × Nat × Nat)}
    (hown : s.vm.findClass own = some m.cls) (hlink : (Cond.methodLink own index y).before args s = true) (hstat : (Cond.static y).before args s = true) (hinit : (Cond.initialized y.cls).before args s = true)
    (hcode : (Cond.codeWith y bytes maxL ret hh).before args s = true) (hy : y.cls ≠ "java/lang/invoke/MethodHandle" ∧ y.cls ≠ "java/lang/invoke/VarHandle")
    {W9 : Nat} {Pre : Pt → Array Value → Prop} {Post : Pt → Array Value → Option Value → Pt → Prop} (hK : Back l R p e below s args y 3 W9 Pre Post)
    {g : JFrame} (hg : g.method = m) (hsize : g.locals.size = c.maxLocals) {argsL rest : List Value} (hlen : ∀ sig, parseMethodDescriptor y.desc = some sig → argsL.length = sig.parameters.length)
    (hstack : g.stack = argsL.reverse ++ rest) (hW : 2 * g.monitorRoom + (rest.map fun v => v.category).sum ≤ W9) (hdg : decode c.code g.pc = .ok (.invokestatic index, 3))
    (hpre : ∀ vm₁, s.WarmedH vm₁ → Pre ⟨T.setVm vm₁, locs, cells, slots⟩ argsL.toArray) :
    ∃ (v : Option Value) (vm₁ : Vm) (B : Pt), s.WarmedH vm₁ ∧ Stand p l e R s m args below meth c B.U B.locs B.cells B.slots ∧ Post ⟨T.setVm vm₁, locs, cells, slots⟩ argsL.toArray v B ∧
      ∀ target, Steps p.tables e below (B.U.setTop { g with pc := g.pc + 3, stack := v.toList ++ rest }) target → Steps p.tables e below (T.setTop g) target := by
  obtain ⟨mk, methM, cM, hnamed, hmethM, -, -, -, -, -, -, hsigM⟩ := Cond.codeWith_spec hcode
  have hstatic : methM.isStatic = true := Cond.static_spec hnamed hmethM hstat
  obtain ⟨kP, hkP, -⟩ := className_of_methodNamed hnamed
  have hinitP : kP.init = .initialized := Cond.initialized_spec (findClass_of_methodNamed hnamed) hkP hinit
  obtain ⟨vm₁, X₁, hstep₁⟩ := X.invokestatic hexec hown hlink hnamed hmethM hstatic hkP hinitP hy (g := g) hg (argsL := argsL) (rest := rest) (hlen _ hsigM) hstack hdg
  obtain ⟨v, B, X', hpost, hsteps⟩ := hK m meth c ⟨T.setVm vm₁, locs, cells, slots⟩ { g with stack := rest } (.invokestatic index) mk argsL.toArray X₁ hg hsize hdg hW (X₁.named hnamed) (hpre vm₁ X₁.warmed)
  exact ⟨v, vm₁, B, X₁.warmed, X', hpost, fun target h => hstep₁ _ fun acts => by rw [doInvoke_state]; exact hsteps.trans h⟩
theorem vx_runSW {y : MethodName} {bytes cc : ByteArray} {maxL nL mc ms n index : Nat} {ret : Option FieldType} {hh : List (Nat × Nat × Nat × Nat)} {ws : List Cond} {rm : Room} {Pc : Array Value → State → Prop} {Qc : Array Value → State → Outcome → State → Prop} {free : Addr → Prop} {Ts : List Cond} {own : String} {As rest : List Value} {g : JFrame}
    (S : CallFix p m c cc nL s args Ts own) (hM : Met l y ws rm Pc Qc mc ms free) (cw : vx_CSW R s args own index y bytes maxL ret hh ws rm mc ms n) (hp : PreS s H Pc As)
    (hg : g.method = m) (hn : As.length = n) (hsize : g.locals.size = nL) (hstack : g.stack = As.reverse ++ rest) (hW : 2 * g.monitorRoom + (rest.map fun v => v.category).sum ≤ 8) (hdg : decode cc g.pc = .ok (.invokestatic index, 3)) (hf : cells + mc ≤ R.cells ∧ slots + ms ≤ R.slots) :
    va_Run p l e R s m args below meth c H locs cells slots mc ms g rest (Qc As.toArray) (free) := by
  obtain ⟨⟨hrc, hrs, hfr, hlo, hws, hcw⟩, hcode, hini, hy, hlen, hl, hstt⟩ := cw
  have hK : Back l R p e below s args y 3 8 (PreOf R mc ms Pc) (PostOf Qc mc ms free) := va_backW (hh := hh) (bytes := bytes) (maxL := maxL) (ret := ret) hM hp.1 hrc hrs hfr hlo hws hcw (fun a' U hW => word_at hW (Or.inl (by first | rfl | simp [Cond.onTables, Cond.keeps, Cond.steady])) hini)
  obtain ⟨hx, hb, hml, ho, -⟩ := S
  intro T hT X
  obtain ⟨v, vm₁, ⟨U', l2, c2, s2⟩, hW₁, X', ⟨g', mk, t, L, e1, e2, hq, h1, hL, h2, h3⟩, st⟩ := vx_callSW X hx (hh := hh) (bytes := bytes) (maxL := maxL) (ret := ret) ho hl hstt hini hcode hy hK hg (hsize.trans hml.symm) (argsL := As) (rest := rest) (fun sig h => hn.trans (hlen sig h)) hstack hW (by rw [hb]; exact hdg)
    (fun vm₁ hW₁ => ⟨hf.1, hf.2, hp.2 (T.setVm vm₁) hT hW₁⟩)
  dsimp only [Pt.U, Pt.locs, Pt.cells, Pt.slots] at X' e1 e2 h1 h2 h3 st
  subst h1; subst h2; subst h3
  exact ⟨v, (T.setVm vm₁).calling g' mk As.toArray, t, U', L, hT, X', hL, e1, e2, hq, st⟩
theorem vx_outP {p : Program} {l : Launch} {e : Env} {R : Room} {s : State} {m : MethodId} {args : Array Value} {below : List Frame} {meth : Method} {c : Code} {H : Heap} {locs : List Loc} {cells slots : Nat} {free : Addr → Prop} {ls : Array Slot} {rest : List Value} {Qc : Array Value → State → Outcome → State → Prop} {XC : String → State → State → Prop}
    {pc : Nat} {own E : String} {ce : Cell} {q : Addr} {mc ms : Nat} (hown : s.vm.findClass own = some m.cls) (hlocks : meth.locks = false)
    (hpass : ∀ z ∈ c.exceptionTable.toList, covers z pc = false ∨ (z.catchType ≠ 0 ∧ ∃ nm : String, (Cond.classLink own z.catchType nm).before args s = true ∧ va_Nc E nm s)) (hcell : H[q]? = some ce) (hv : ce.vm = .none) (hcl : s.vm.findClass E = some ce.cls)
    (hx : ∀ t : State, t.heap = H → s.vm.Alike t.vm → XC E s t) (hf : ∀ z ∈ locs, free z.base) (hc : cells ≤ mc) (hs : slots ≤ ms) :
    vx_W p l e R s m args below meth c H locs cells slots (vx_MQ below Qc XC args s mc ms free) (F0 m pc ls rest) q := by
  intro T hT X
  have hpl : e.platform.magicAccessors = ({} : Platform).magicAccessors := by rw [X.admits.platform]
  obtain ⟨vm', hW', X', st⟩ := X.outThrough hlocks q (g := F0 m pc ls rest) rfl rfl rfl (cell := ce) (by rw [hT]; exact hcell) (by rw [hv]; rfl)
    (by obtain ⟨k9, h9, -⟩ := Vm.findClass_spec hcl; exact ⟨k9, h9⟩) (fun z hz => by
      rcases hpass z hz with h | ⟨hz0, nm, hl1, hn1⟩
      · exact Or.inl h
      · obtain ⟨c6, hc6, hcl6⟩ := Cond.classLink_spec hown hl1 e.platform hpl
        obtain ⟨a8, b8, h1, h2, h3⟩ := hn1
        cases Option.some.inj (h1.symm.trans hcl)
        cases Option.some.inj (h2.symm.trans hc6)
        exact Or.inr ⟨hz0, _, hcl6, h3⟩)
  obtain ⟨g₀, hfr⟩ := X'.frames_eq
  have hcell9 : ((T.setVm vm').setFrames (.throwing q :: below)).heap[q]? = some ce := by
    show T.heap[q]? = some ce
    rw [hT]; exact hcell
  have hend : Ended ((T.setVm vm').setFrames (.throwing q :: below)) below (.threw q) := State.frames_setFrames _ (State.cur_lt_of_frames hfr)
  refine ⟨(T.setVm vm').setFrames (.throwing q :: below), ?_, .threw q, X'.here.running, hend, Or.inr ⟨q, rfl, E, ce, locs, hx _ hT (X'.ends _).1.alike, hcell9, hv, hcl, (X'.ends _).1, (X'.ends _).2.mono hc hs, hf⟩⟩
  rw [X.pushThrowing_eq]
  exact st
theorem vx_lt {D : va_G} {cl : List vw_C} {ws : va_W} {H1 : Heap} (h : va_P D cl ws H1) {k : Nat} {q : Nat × va_E} (hk : ws[k]? = some q) : q.1 < H1.size := (h k q hk).lt
end VXS
end
section
abbrev tp_RC : String := "TwinPool"
abbrev tp_RM : String := "TwinPoolModel"
abbrev tp_RL : String := "TwinPoolLaw"
abbrev tp_bC_init : ByteArray := prog_1_method_1_code
abbrev tp_yC_init : MethodName := ⟨tp_RC, "<init>", "()V"⟩
abbrev tp_bC_disk : ByteArray := prog_1_method_2_code
abbrev tp_yC_disk : MethodName := ⟨tp_RC, "disk", "(II)V"⟩
abbrev tp_bC_chunk : ByteArray := prog_1_method_3_code
abbrev tp_yC_chunk : MethodName := ⟨tp_RC, "chunk", "()I"⟩
abbrev tp_bC_chunks : ByteArray := prog_1_method_4_code
abbrev tp_yC_chunks : MethodName := ⟨tp_RC, "chunks", "(I)I"⟩
abbrev tp_bC_free : ByteArray := prog_1_method_5_code
abbrev tp_yC_free : MethodName := ⟨tp_RC, "free", "(I)I"⟩
abbrev tp_bC_write : ByteArray := prog_1_method_6_code
abbrev tp_yC_write : MethodName := ⟨tp_RC, "write", "(III)V"⟩
abbrev tp_bC_read : ByteArray := prog_1_method_7_code
abbrev tp_yC_read : MethodName := ⟨tp_RC, "read", "(II)I"⟩
abbrev tp_bC_fail : ByteArray := prog_1_method_8_code
abbrev tp_yC_fail : MethodName := ⟨tp_RC, "fail", "(I)I"⟩
abbrev tp_bC_leave : ByteArray := prog_1_method_9_code
abbrev tp_yC_leave : MethodName := ⟨tp_RC, "leave", "(I)I"⟩
abbrev tp_bC_stay : ByteArray := prog_1_method_10_code
abbrev tp_yC_stay : MethodName := ⟨tp_RC, "stay", "(I)V"⟩
abbrev tp_bC_step : ByteArray := prog_1_method_11_code
abbrev tp_yC_step : MethodName := ⟨tp_RC, "step", "()I"⟩
abbrev tp_bC_steps : ByteArray := prog_1_method_12_code
abbrev tp_yC_steps : MethodName := ⟨tp_RC, "steps", "(I)I"⟩
abbrev tp_bC_place : ByteArray := prog_1_method_13_code
abbrev tp_yC_place : MethodName := ⟨tp_RC, "place", "(IZ)I"⟩
abbrev tp_bC_about : ByteArray := prog_1_method_14_code
abbrev tp_yC_about : MethodName := ⟨tp_RC, "about", "(II)I"⟩
abbrev tp_bC_count : ByteArray := prog_1_method_15_code
abbrev tp_yC_count : MethodName := ⟨tp_RC, "count", "(I)I"⟩
abbrev tp_bC_isThere : ByteArray := prog_1_method_16_code
abbrev tp_yC_isThere : MethodName := ⟨tp_RC, "isThere", "(I)Z"⟩
abbrev tp_bC_stays : ByteArray := prog_1_method_17_code
abbrev tp_yC_stays : MethodName := ⟨tp_RC, "stays", "(I)Z"⟩
abbrev tp_bC_freePlaces : ByteArray := prog_1_method_18_code
abbrev tp_yC_freePlaces : MethodName := ⟨tp_RC, "freePlaces", "(I)I"⟩
abbrev tp_bC_staysWithRoom : ByteArray := prog_1_method_19_code
abbrev tp_yC_staysWithRoom : MethodName := ⟨tp_RC, "staysWithRoom", "(I)Z"⟩
abbrev tp_bC_takeAway : ByteArray := prog_1_method_20_code
abbrev tp_yC_takeAway : MethodName := ⟨tp_RC, "takeAway", "(I)V"⟩
abbrev tp_bC_hasLeft : ByteArray := prog_1_method_21_code
abbrev tp_yC_hasLeft : MethodName := ⟨tp_RC, "hasLeft", "(I)Z"⟩
abbrev tp_bC_emptiestBut : ByteArray := prog_1_method_22_code
abbrev tp_yC_emptiestBut : MethodName := ⟨tp_RC, "emptiestBut", "(I)I"⟩
abbrev tp_bC_capacityWithout : ByteArray := prog_1_method_23_code
abbrev tp_yC_capacityWithout : MethodName := ⟨tp_RC, "capacityWithout", "(I)I"⟩
abbrev tp_bC_disksThere : ByteArray := prog_1_method_24_code
abbrev tp_yC_disksThere : MethodName := ⟨tp_RC, "disksThere", "()I"⟩
abbrev tp_bC_copiesOnLeaving : ByteArray := prog_1_method_25_code
abbrev tp_yC_copiesOnLeaving : MethodName := ⟨tp_RC, "copiesOnLeaving", "()I"⟩
abbrev tp_bC_leastChunkOn : ByteArray := prog_1_method_26_code
abbrev tp_yC_leastChunkOn : MethodName := ⟨tp_RC, "leastChunkOn", "(I)I"⟩
abbrev tp_bC_isChunk : ByteArray := prog_1_method_27_code
abbrev tp_yC_isChunk : MethodName := ⟨tp_RC, "isChunk", "(I)Z"⟩
abbrev tp_bC_isOn : ByteArray := prog_1_method_28_code
abbrev tp_yC_isOn : MethodName := ⟨tp_RC, "isOn", "(II)Z"⟩
abbrev tp_bC_copiesOf : ByteArray := prog_1_method_29_code
abbrev tp_yC_copiesOf : MethodName := ⟨tp_RC, "copiesOf", "(I)I"⟩
abbrev tp_bC_isDegraded : ByteArray := prog_1_method_30_code
abbrev tp_yC_isDegraded : MethodName := ⟨tp_RC, "isDegraded", "(I)Z"⟩
abbrev tp_bC_otherThan : ByteArray := prog_1_method_31_code
abbrev tp_yC_otherThan : MethodName := ⟨tp_RC, "otherThan", "(II)I"⟩
abbrev tp_bC_allChunks : ByteArray := prog_1_method_32_code
abbrev tp_yC_allChunks : MethodName := ⟨tp_RC, "allChunks", "()I"⟩
abbrev tp_bC_chunksWith : ByteArray := prog_1_method_33_code
abbrev tp_yC_chunksWith : MethodName := ⟨tp_RC, "chunksWith", "(I)I"⟩
abbrev tp_bC_leastUnusedNumber : ByteArray := prog_1_method_34_code
abbrev tp_yC_leastUnusedNumber : MethodName := ⟨tp_RC, "leastUnusedNumber", "()I"⟩
abbrev tp_bC_addCopy : ByteArray := prog_1_method_35_code
abbrev tp_yC_addCopy : MethodName := ⟨tp_RC, "addCopy", "(II)V"⟩
abbrev tp_bC_dropCopy : ByteArray := prog_1_method_36_code
abbrev tp_yC_dropCopy : MethodName := ⟨tp_RC, "dropCopy", "(II)V"⟩
abbrev tp_bC_moveCopy : ByteArray := prog_1_method_37_code
abbrev tp_yC_moveCopy : MethodName := ⟨tp_RC, "moveCopy", "(III)V"⟩
abbrev tp_bC_makeRoomBeside : ByteArray := prog_1_method_38_code
abbrev tp_yC_makeRoomBeside : MethodName := ⟨tp_RC, "makeRoomBeside", "(I)I"⟩
abbrev tp_bC_copyForRoom : ByteArray := prog_1_method_39_code
abbrev tp_yC_copyForRoom : MethodName := ⟨tp_RC, "copyForRoom", "(II)I"⟩
abbrev tp_bC_newChunk : ByteArray := prog_1_method_40_code
abbrev tp_yC_newChunk : MethodName := ⟨tp_RC, "newChunk", "()I"⟩
abbrev tp_bC_clearWords : ByteArray := prog_1_method_41_code
abbrev tp_yC_clearWords : MethodName := ⟨tp_RC, "clearWords", "(I)V"⟩
abbrev tp_bC_nextStep : ByteArray := prog_1_method_42_code
abbrev tp_yC_nextStep : MethodName := ⟨tp_RC, "nextStep", "()I"⟩
abbrev tp_bC_mendOne : ByteArray := prog_1_method_43_code
abbrev tp_yC_mendOne : MethodName := ⟨tp_RC, "mendOne", "()Z"⟩
abbrev tp_bC_makeRoomToMend : ByteArray := prog_1_method_44_code
abbrev tp_yC_makeRoomToMend : MethodName := ⟨tp_RC, "makeRoomToMend", "()Z"⟩
abbrev tp_bC_moveOneOff : ByteArray := prog_1_method_45_code
abbrev tp_yC_moveOneOff : MethodName := ⟨tp_RC, "moveOneOff", "()Z"⟩
abbrev tp_bC_moveOneOffDisk : ByteArray := prog_1_method_46_code
abbrev tp_yC_moveOneOffDisk : MethodName := ⟨tp_RC, "moveOneOffDisk", "(I)Z"⟩
abbrev tp_bC_makeRoomToMoveOff : ByteArray := prog_1_method_47_code
abbrev tp_yC_makeRoomToMoveOff : MethodName := ⟨tp_RC, "makeRoomToMoveOff", "()Z"⟩
abbrev tp_bC_otherDiskWithRoom : ByteArray := prog_1_method_48_code
abbrev tp_yC_otherDiskWithRoom : MethodName := ⟨tp_RC, "otherDiskWithRoom", "(I)I"⟩
abbrev tp_bM_init : ByteArray := prog_3_method_1_code
abbrev tp_yM_init : MethodName := ⟨tp_RM, "<init>", "()V"⟩
abbrev tp_bM_thrown : ByteArray := prog_3_method_2_code
abbrev tp_yM_thrown : MethodName := ⟨tp_RM, "thrown", "()I"⟩
abbrev tp_bM_isDisk : ByteArray := prog_3_method_3_code
abbrev tp_yM_isDisk : MethodName := ⟨tp_RM, "isDisk", "(I)Z"⟩
abbrev tp_bM_isChunk : ByteArray := prog_3_method_4_code
abbrev tp_yM_isChunk : MethodName := ⟨tp_RM, "isChunk", "(I)Z"⟩
abbrev tp_bM_stays : ByteArray := prog_3_method_5_code
abbrev tp_yM_stays : MethodName := ⟨tp_RM, "stays", "(I)Z"⟩
abbrev tp_bM_isOn : ByteArray := prog_3_method_6_code
abbrev tp_yM_isOn : MethodName := ⟨tp_RM, "isOn", "(II)Z"⟩
abbrev tp_bM_used : ByteArray := prog_3_method_7_code
abbrev tp_yM_used : MethodName := ⟨tp_RM, "used", "(I)I"⟩
abbrev tp_bM_freeOn : ByteArray := prog_3_method_8_code
abbrev tp_yM_freeOn : MethodName := ⟨tp_RM, "freeOn", "(I)I"⟩
abbrev tp_bM_howMany : ByteArray := prog_3_method_9_code
abbrev tp_yM_howMany : MethodName := ⟨tp_RM, "howMany", "(I)I"⟩
abbrev tp_bM_emptiest : ByteArray := prog_3_method_10_code
abbrev tp_yM_emptiest : MethodName := ⟨tp_RM, "emptiest", "(II)I"⟩
abbrev tp_bM_capacity : ByteArray := prog_3_method_11_code
abbrev tp_yM_capacity : MethodName := ⟨tp_RM, "capacity", "(I)I"⟩
abbrev tp_bM_countWith : ByteArray := prog_3_method_12_code
abbrev tp_yM_countWith : MethodName := ⟨tp_RM, "countWith", "(I)I"⟩
abbrev tp_bM_chunkCount : ByteArray := prog_3_method_13_code
abbrev tp_yM_chunkCount : MethodName := ⟨tp_RM, "chunkCount", "()I"⟩
abbrev tp_bM_tidy : ByteArray := prog_3_method_14_code
abbrev tp_yM_tidy : MethodName := ⟨tp_RM, "tidy", "()V"⟩
abbrev tp_bM_makeRoom : ByteArray := prog_3_method_15_code
abbrev tp_yM_makeRoom : MethodName := ⟨tp_RM, "makeRoom", "(I)I"⟩
abbrev tp_bM_newChunk : ByteArray := prog_3_method_16_code
abbrev tp_yM_newChunk : MethodName := ⟨tp_RM, "newChunk", "()I"⟩
abbrev tp_bM_chunk : ByteArray := prog_3_method_17_code
abbrev tp_yM_chunk : MethodName := ⟨tp_RM, "chunk", "()I"⟩
abbrev tp_bM_chunks : ByteArray := prog_3_method_18_code
abbrev tp_yM_chunks : MethodName := ⟨tp_RM, "chunks", "(I)I"⟩
abbrev tp_bM_free : ByteArray := prog_3_method_19_code
abbrev tp_yM_free : MethodName := ⟨tp_RM, "free", "(I)I"⟩
abbrev tp_bM_copyOne : ByteArray := prog_3_method_20_code
abbrev tp_yM_copyOne : MethodName := ⟨tp_RM, "copyOne", "()Z"⟩
abbrev tp_bM_roomFor : ByteArray := prog_3_method_21_code
abbrev tp_yM_roomFor : MethodName := ⟨tp_RM, "roomFor", "(II)Z"⟩
abbrev tp_bM_roomForOne : ByteArray := prog_3_method_22_code
abbrev tp_yM_roomForOne : MethodName := ⟨tp_RM, "roomForOne", "()Z"⟩
abbrev tp_bM_leaveOne : ByteArray := prog_3_method_23_code
abbrev tp_yM_leaveOne : MethodName := ⟨tp_RM, "leaveOne", "(Z)Z"⟩
abbrev tp_bM_doStep : ByteArray := prog_3_method_24_code
abbrev tp_yM_doStep : MethodName := ⟨tp_RM, "doStep", "()I"⟩
abbrev tp_bM_step : ByteArray := prog_3_method_25_code
abbrev tp_yM_step : MethodName := ⟨tp_RM, "step", "()I"⟩
abbrev tp_bM_steps : ByteArray := prog_3_method_26_code
abbrev tp_yM_steps : MethodName := ⟨tp_RM, "steps", "(I)I"⟩
abbrev tp_bM_disk : ByteArray := prog_3_method_27_code
abbrev tp_yM_disk : MethodName := ⟨tp_RM, "disk", "(II)V"⟩
abbrev tp_bM_fail : ByteArray := prog_3_method_28_code
abbrev tp_yM_fail : MethodName := ⟨tp_RM, "fail", "(I)I"⟩
abbrev tp_bM_leave : ByteArray := prog_3_method_29_code
abbrev tp_yM_leave : MethodName := ⟨tp_RM, "leave", "(I)I"⟩
abbrev tp_bM_stay : ByteArray := prog_3_method_30_code
abbrev tp_yM_stay : MethodName := ⟨tp_RM, "stay", "(I)V"⟩
abbrev tp_bM_write : ByteArray := prog_3_method_31_code
abbrev tp_yM_write : MethodName := ⟨tp_RM, "write", "(III)V"⟩
abbrev tp_bM_read : ByteArray := prog_3_method_32_code
abbrev tp_yM_read : MethodName := ⟨tp_RM, "read", "(II)I"⟩
abbrev tp_bM_place : ByteArray := prog_3_method_33_code
abbrev tp_yM_place : MethodName := ⟨tp_RM, "place", "(IZ)I"⟩
abbrev tp_bM_about : ByteArray := prog_3_method_34_code
abbrev tp_yM_about : MethodName := ⟨tp_RM, "about", "(II)I"⟩
abbrev tp_bM_count : ByteArray := prog_3_method_35_code
abbrev tp_yM_count : MethodName := ⟨tp_RM, "count", "(I)I"⟩
abbrev tp_bL_disk : ByteArray := method_3_code
abbrev tp_yL_disk : MethodName := ⟨tp_RL, "disk", "(LTwinPool;II)I"⟩
abbrev tp_bL_chunk : ByteArray := method_4_code
abbrev tp_yL_chunk : MethodName := ⟨tp_RL, "chunk", "(LTwinPool;[J)I"⟩
abbrev tp_bL_chunks : ByteArray := method_5_code
abbrev tp_yL_chunks : MethodName := ⟨tp_RL, "chunks", "(LTwinPool;I[J)I"⟩
abbrev tp_bL_free : ByteArray := method_6_code
abbrev tp_yL_free : MethodName := ⟨tp_RL, "free", "(LTwinPool;I[J)I"⟩
abbrev tp_bL_write : ByteArray := method_7_code
abbrev tp_yL_write : MethodName := ⟨tp_RL, "write", "(LTwinPool;III)I"⟩
abbrev tp_bL_read : ByteArray := method_8_code
abbrev tp_yL_read : MethodName := ⟨tp_RL, "read", "(LTwinPool;II[J)I"⟩
abbrev tp_bL_fail : ByteArray := method_9_code
abbrev tp_yL_fail : MethodName := ⟨tp_RL, "fail", "(LTwinPool;I[J)I"⟩
abbrev tp_bL_leave : ByteArray := method_10_code
abbrev tp_yL_leave : MethodName := ⟨tp_RL, "leave", "(LTwinPool;I[J)I"⟩
abbrev tp_bL_stay : ByteArray := method_11_code
abbrev tp_yL_stay : MethodName := ⟨tp_RL, "stay", "(LTwinPool;I)I"⟩
abbrev tp_bL_steps : ByteArray := method_12_code
abbrev tp_yL_steps : MethodName := ⟨tp_RL, "steps", "(LTwinPool;I[J)I"⟩
abbrev tp_bL_place : ByteArray := method_13_code
abbrev tp_yL_place : MethodName := ⟨tp_RL, "place", "(LTwinPool;IZ[J)I"⟩
abbrev tp_bL_about : ByteArray := method_14_code
abbrev tp_yL_about : MethodName := ⟨tp_RL, "about", "(LTwinPool;II[J)I"⟩
abbrev tp_bL_count : ByteArray := method_15_code
abbrev tp_yL_count : MethodName := ⟨tp_RL, "count", "(LTwinPool;I[J)I"⟩
abbrev tp_bL_law : ByteArray := code
abbrev tp_yL_law : MethodName := ⟨tp_RL, "law", "([I)Z"⟩
end
section
theorem dC_init_0 : decode tp_bC_init 0 = .ok (.aload_n 0, 1) := by decide +kernel
theorem dC_init_1 : decode tp_bC_init 1 = .ok (.invokespecial 1, 3) := by decide +kernel
theorem dC_init_4 : decode tp_bC_init 4 = .ok (.aload_n 0, 1) := by decide +kernel
theorem dC_init_5 : decode tp_bC_init 5 = .ok (.bipush 12, 2) := by decide +kernel
theorem dC_init_7 : decode tp_bC_init 7 = .ok (.newarray .int, 2) := by decide +kernel
theorem dC_init_9 : decode tp_bC_init 9 = .ok (.putfield 9, 3) := by decide +kernel
theorem dC_init_12 : decode tp_bC_init 12 = .ok (.aload_n 0, 1) := by decide +kernel
theorem dC_init_13 : decode tp_bC_init 13 = .ok (.bipush 12, 2) := by decide +kernel
theorem dC_init_15 : decode tp_bC_init 15 = .ok (.newarray .int, 2) := by decide +kernel
theorem dC_init_17 : decode tp_bC_init 17 = .ok (.putfield 13, 3) := by decide +kernel
theorem dC_init_20 : decode tp_bC_init 20 = .ok (.aload_n 0, 1) := by decide +kernel
theorem dC_init_21 : decode tp_bC_init 21 = .ok (.bipush 12, 2) := by decide +kernel
theorem dC_init_23 : decode tp_bC_init 23 = .ok (.newarray .boolean, 2) := by decide +kernel
theorem dC_init_25 : decode tp_bC_init 25 = .ok (.putfield 16, 3) := by decide +kernel
theorem dC_init_28 : decode tp_bC_init 28 = .ok (.aload_n 0, 1) := by decide +kernel
theorem dC_init_29 : decode tp_bC_init 29 = .ok (.sipush 400, 3) := by decide +kernel
theorem dC_init_32 : decode tp_bC_init 32 = .ok (.newarray .boolean, 2) := by decide +kernel
theorem dC_init_34 : decode tp_bC_init 34 = .ok (.putfield 20, 3) := by decide +kernel
theorem dC_init_37 : decode tp_bC_init 37 = .ok (.aload_n 0, 1) := by decide +kernel
theorem dC_init_38 : decode tp_bC_init 38 = .ok (.sipush 400, 3) := by decide +kernel
theorem dC_init_41 : decode tp_bC_init 41 = .ok (.newarray .int, 2) := by decide +kernel
theorem dC_init_43 : decode tp_bC_init 43 = .ok (.putfield 23, 3) := by decide +kernel
theorem dC_init_46 : decode tp_bC_init 46 = .ok (.aload_n 0, 1) := by decide +kernel
theorem dC_init_47 : decode tp_bC_init 47 = .ok (.sipush 400, 3) := by decide +kernel
theorem dC_init_50 : decode tp_bC_init 50 = .ok (.newarray .int, 2) := by decide +kernel
theorem dC_init_52 : decode tp_bC_init 52 = .ok (.putfield 26, 3) := by decide +kernel
theorem dC_init_55 : decode tp_bC_init 55 = .ok (.aload_n 0, 1) := by decide +kernel
theorem dC_init_56 : decode tp_bC_init 56 = .ok (.sipush 1600, 3) := by decide +kernel
theorem dC_init_59 : decode tp_bC_init 59 = .ok (.newarray .int, 2) := by decide +kernel
theorem dC_init_61 : decode tp_bC_init 61 = .ok (.putfield 29, 3) := by decide +kernel
theorem dC_init_64 : decode tp_bC_init 64 = .ok (.aload_n 0, 1) := by decide +kernel
theorem dC_init_65 : decode tp_bC_init 65 = .ok (.iconst 0, 1) := by decide +kernel
theorem dC_init_66 : decode tp_bC_init 66 = .ok (.putfield 32, 3) := by decide +kernel
theorem dC_init_69 : decode tp_bC_init 69 = .ok (.iconst 0, 1) := by decide +kernel
theorem dC_init_70 : decode tp_bC_init 70 = .ok (.istore_n 1, 1) := by decide +kernel
theorem dC_init_71 : decode tp_bC_init 71 = .ok (.iload_n 1, 1) := by decide +kernel
theorem dC_init_72 : decode tp_bC_init 72 = .ok (.sipush 400, 3) := by decide +kernel
theorem dC_init_75 : decode tp_bC_init 75 = .ok (.if_icmp .ge 23, 3) := by decide +kernel
theorem dC_init_78 : decode tp_bC_init 78 = .ok (.aload_n 0, 1) := by decide +kernel
theorem dC_init_79 : decode tp_bC_init 79 = .ok (.getfield 23, 3) := by decide +kernel
theorem dC_init_82 : decode tp_bC_init 82 = .ok (.iload_n 1, 1) := by decide +kernel
theorem dC_init_83 : decode tp_bC_init 83 = .ok (.iconst (-1), 1) := by decide +kernel
theorem dC_init_84 : decode tp_bC_init 84 = .ok (.iastore, 1) := by decide +kernel
theorem dC_init_85 : decode tp_bC_init 85 = .ok (.aload_n 0, 1) := by decide +kernel
theorem dC_init_86 : decode tp_bC_init 86 = .ok (.getfield 26, 3) := by decide +kernel
theorem dC_init_89 : decode tp_bC_init 89 = .ok (.iload_n 1, 1) := by decide +kernel
theorem dC_init_90 : decode tp_bC_init 90 = .ok (.iconst (-1), 1) := by decide +kernel
theorem dC_init_91 : decode tp_bC_init 91 = .ok (.iastore, 1) := by decide +kernel
theorem dC_init_92 : decode tp_bC_init 92 = .ok (.iinc 1 1, 3) := by decide +kernel
theorem dC_init_95 : decode tp_bC_init 95 = .ok (.goto (-24), 3) := by decide +kernel
theorem dC_init_98 : decode tp_bC_init 98 = .ok (.return_, 1) := by decide +kernel
theorem dC_disk_0 : decode tp_bC_disk 0 = .ok (.iload_n 1, 1) := by decide +kernel
theorem dC_disk_1 : decode tp_bC_disk 1 = .ok (.ifCond .lt 9, 3) := by decide +kernel
theorem dC_disk_4 : decode tp_bC_disk 4 = .ok (.iload_n 1, 1) := by decide +kernel
theorem dC_disk_5 : decode tp_bC_disk 5 = .ok (.bipush 12, 2) := by decide +kernel
theorem dC_disk_7 : decode tp_bC_disk 7 = .ok (.if_icmp .lt 11, 3) := by decide +kernel
theorem dC_disk_10 : decode tp_bC_disk 10 = .ok (.new 36, 3) := by decide +kernel
theorem dC_disk_13 : decode tp_bC_disk 13 = .ok (.dup, 1) := by decide +kernel
theorem dC_disk_14 : decode tp_bC_disk 14 = .ok (.invokespecial 38, 3) := by decide +kernel
theorem dC_disk_17 : decode tp_bC_disk 17 = .ok (.athrow, 1) := by decide +kernel
theorem dC_disk_18 : decode tp_bC_disk 18 = .ok (.aload_n 0, 1) := by decide +kernel
theorem dC_disk_19 : decode tp_bC_disk 19 = .ok (.iload_n 1, 1) := by decide +kernel
theorem dC_disk_20 : decode tp_bC_disk 20 = .ok (.invokevirtual 39, 3) := by decide +kernel
theorem dC_disk_23 : decode tp_bC_disk 23 = .ok (.ifCond .eq 11, 3) := by decide +kernel
theorem dC_disk_26 : decode tp_bC_disk 26 = .ok (.new 43, 3) := by decide +kernel
theorem dC_disk_29 : decode tp_bC_disk 29 = .ok (.dup, 1) := by decide +kernel
theorem dC_disk_30 : decode tp_bC_disk 30 = .ok (.invokespecial 45, 3) := by decide +kernel
theorem dC_disk_33 : decode tp_bC_disk 33 = .ok (.athrow, 1) := by decide +kernel
theorem dC_disk_34 : decode tp_bC_disk 34 = .ok (.iload_n 2, 1) := by decide +kernel
theorem dC_disk_35 : decode tp_bC_disk 35 = .ok (.iconst 1, 1) := by decide +kernel
theorem dC_disk_36 : decode tp_bC_disk 36 = .ok (.if_icmp .lt 10, 3) := by decide +kernel
theorem dC_disk_39 : decode tp_bC_disk 39 = .ok (.iload_n 2, 1) := by decide +kernel
theorem dC_disk_40 : decode tp_bC_disk 40 = .ok (.sipush 200, 3) := by decide +kernel
theorem dC_disk_43 : decode tp_bC_disk 43 = .ok (.if_icmp .le 11, 3) := by decide +kernel
theorem dC_disk_46 : decode tp_bC_disk 46 = .ok (.new 46, 3) := by decide +kernel
theorem dC_disk_49 : decode tp_bC_disk 49 = .ok (.dup, 1) := by decide +kernel
theorem dC_disk_50 : decode tp_bC_disk 50 = .ok (.invokespecial 48, 3) := by decide +kernel
theorem dC_disk_53 : decode tp_bC_disk 53 = .ok (.athrow, 1) := by decide +kernel
theorem dC_disk_54 : decode tp_bC_disk 54 = .ok (.aload_n 0, 1) := by decide +kernel
theorem dC_disk_55 : decode tp_bC_disk 55 = .ok (.getfield 9, 3) := by decide +kernel
theorem dC_disk_58 : decode tp_bC_disk 58 = .ok (.iload_n 1, 1) := by decide +kernel
theorem dC_disk_59 : decode tp_bC_disk 59 = .ok (.iload_n 2, 1) := by decide +kernel
theorem dC_disk_60 : decode tp_bC_disk 60 = .ok (.iastore, 1) := by decide +kernel
theorem dC_disk_61 : decode tp_bC_disk 61 = .ok (.return_, 1) := by decide +kernel
theorem dC_chunk_0 : decode tp_bC_chunk 0 = .ok (.aload_n 0, 1) := by decide +kernel
theorem dC_chunk_1 : decode tp_bC_chunk 1 = .ok (.invokevirtual 49, 3) := by decide +kernel
theorem dC_chunk_4 : decode tp_bC_chunk 4 = .ok (.istore_n 1, 1) := by decide +kernel
theorem dC_chunk_5 : decode tp_bC_chunk 5 = .ok (.iload_n 1, 1) := by decide +kernel
theorem dC_chunk_6 : decode tp_bC_chunk 6 = .ok (.iconst (-1), 1) := by decide +kernel
theorem dC_chunk_7 : decode tp_bC_chunk 7 = .ok (.if_icmp .ne 11, 3) := by decide +kernel
theorem dC_chunk_10 : decode tp_bC_chunk 10 = .ok (.new 53, 3) := by decide +kernel
theorem dC_chunk_13 : decode tp_bC_chunk 13 = .ok (.dup, 1) := by decide +kernel
theorem dC_chunk_14 : decode tp_bC_chunk 14 = .ok (.invokespecial 55, 3) := by decide +kernel
theorem dC_chunk_17 : decode tp_bC_chunk 17 = .ok (.athrow, 1) := by decide +kernel
theorem dC_chunk_18 : decode tp_bC_chunk 18 = .ok (.iload_n 1, 1) := by decide +kernel
theorem dC_chunk_19 : decode tp_bC_chunk 19 = .ok (.ireturn, 1) := by decide +kernel
theorem dC_chunks_0 : decode tp_bC_chunks 0 = .ok (.iload_n 1, 1) := by decide +kernel
theorem dC_chunks_1 : decode tp_bC_chunks 1 = .ok (.ifCond .ge 11, 3) := by decide +kernel
theorem dC_chunks_4 : decode tp_bC_chunks 4 = .ok (.new 46, 3) := by decide +kernel
theorem dC_chunks_7 : decode tp_bC_chunks 7 = .ok (.dup, 1) := by decide +kernel
theorem dC_chunks_8 : decode tp_bC_chunks 8 = .ok (.invokespecial 48, 3) := by decide +kernel
theorem dC_chunks_11 : decode tp_bC_chunks 11 = .ok (.athrow, 1) := by decide +kernel
theorem dC_chunks_12 : decode tp_bC_chunks 12 = .ok (.iload_n 1, 1) := by decide +kernel
theorem dC_chunks_13 : decode tp_bC_chunks 13 = .ok (.sipush 400, 3) := by decide +kernel
theorem dC_chunks_16 : decode tp_bC_chunks 16 = .ok (.invokestatic 56, 3) := by decide +kernel
theorem dC_chunks_19 : decode tp_bC_chunks 19 = .ok (.istore_n 2, 1) := by decide +kernel
theorem dC_chunks_20 : decode tp_bC_chunks 20 = .ok (.iconst 0, 1) := by decide +kernel
theorem dC_chunks_21 : decode tp_bC_chunks 21 = .ok (.istore_n 3, 1) := by decide +kernel
theorem dC_chunks_22 : decode tp_bC_chunks 22 = .ok (.iload_n 3, 1) := by decide +kernel
theorem dC_chunks_23 : decode tp_bC_chunks 23 = .ok (.iload_n 2, 1) := by decide +kernel
theorem dC_chunks_24 : decode tp_bC_chunks 24 = .ok (.if_icmp .ge 17, 3) := by decide +kernel
theorem dC_chunks_27 : decode tp_bC_chunks 27 = .ok (.aload_n 0, 1) := by decide +kernel
theorem dC_chunks_28 : decode tp_bC_chunks 28 = .ok (.invokevirtual 49, 3) := by decide +kernel
theorem dC_chunks_31 : decode tp_bC_chunks 31 = .ok (.iconst (-1), 1) := by decide +kernel
theorem dC_chunks_32 : decode tp_bC_chunks 32 = .ok (.if_icmp .eq 9, 3) := by decide +kernel
theorem dC_chunks_35 : decode tp_bC_chunks 35 = .ok (.iinc 3 1, 3) := by decide +kernel
theorem dC_chunks_38 : decode tp_bC_chunks 38 = .ok (.goto (-16), 3) := by decide +kernel
theorem dC_chunks_41 : decode tp_bC_chunks 41 = .ok (.iload_n 3, 1) := by decide +kernel
theorem dC_chunks_42 : decode tp_bC_chunks 42 = .ok (.ireturn, 1) := by decide +kernel
theorem dC_free_0 : decode tp_bC_free 0 = .ok (.aload_n 0, 1) := by decide +kernel
theorem dC_free_1 : decode tp_bC_free 1 = .ok (.iload_n 1, 1) := by decide +kernel
theorem dC_free_2 : decode tp_bC_free 2 = .ok (.invokevirtual 62, 3) := by decide +kernel
theorem dC_free_5 : decode tp_bC_free 5 = .ok (.ifCond .ne 11, 3) := by decide +kernel
theorem dC_free_8 : decode tp_bC_free 8 = .ok (.new 36, 3) := by decide +kernel
theorem dC_free_11 : decode tp_bC_free 11 = .ok (.dup, 1) := by decide +kernel
theorem dC_free_12 : decode tp_bC_free 12 = .ok (.invokespecial 38, 3) := by decide +kernel
theorem dC_free_15 : decode tp_bC_free 15 = .ok (.athrow, 1) := by decide +kernel
theorem dC_free_16 : decode tp_bC_free 16 = .ok (.aload_n 0, 1) := by decide +kernel
theorem dC_free_17 : decode tp_bC_free 17 = .ok (.iload_n 1, 1) := by decide +kernel
theorem dC_free_18 : decode tp_bC_free 18 = .ok (.invokevirtual 65, 3) := by decide +kernel
theorem dC_free_21 : decode tp_bC_free 21 = .ok (.istore_n 2, 1) := by decide +kernel
theorem dC_free_22 : decode tp_bC_free 22 = .ok (.aload_n 0, 1) := by decide +kernel
theorem dC_free_23 : decode tp_bC_free 23 = .ok (.getfield 26, 3) := by decide +kernel
theorem dC_free_26 : decode tp_bC_free 26 = .ok (.iload_n 1, 1) := by decide +kernel
theorem dC_free_27 : decode tp_bC_free 27 = .ok (.iaload, 1) := by decide +kernel
theorem dC_free_28 : decode tp_bC_free 28 = .ok (.iconst (-1), 1) := by decide +kernel
theorem dC_free_29 : decode tp_bC_free 29 = .ok (.if_icmp .eq 14, 3) := by decide +kernel
theorem dC_free_32 : decode tp_bC_free 32 = .ok (.aload_n 0, 1) := by decide +kernel
theorem dC_free_33 : decode tp_bC_free 33 = .ok (.iload_n 1, 1) := by decide +kernel
theorem dC_free_34 : decode tp_bC_free 34 = .ok (.aload_n 0, 1) := by decide +kernel
theorem dC_free_35 : decode tp_bC_free 35 = .ok (.getfield 26, 3) := by decide +kernel
theorem dC_free_38 : decode tp_bC_free 38 = .ok (.iload_n 1, 1) := by decide +kernel
theorem dC_free_39 : decode tp_bC_free 39 = .ok (.iaload, 1) := by decide +kernel
theorem dC_free_40 : decode tp_bC_free 40 = .ok (.invokevirtual 69, 3) := by decide +kernel
theorem dC_free_43 : decode tp_bC_free 43 = .ok (.aload_n 0, 1) := by decide +kernel
theorem dC_free_44 : decode tp_bC_free 44 = .ok (.getfield 23, 3) := by decide +kernel
theorem dC_free_47 : decode tp_bC_free 47 = .ok (.iload_n 1, 1) := by decide +kernel
theorem dC_free_48 : decode tp_bC_free 48 = .ok (.iaload, 1) := by decide +kernel
theorem dC_free_49 : decode tp_bC_free 49 = .ok (.iconst (-1), 1) := by decide +kernel
theorem dC_free_50 : decode tp_bC_free 50 = .ok (.if_icmp .eq 14, 3) := by decide +kernel
theorem dC_free_53 : decode tp_bC_free 53 = .ok (.aload_n 0, 1) := by decide +kernel
theorem dC_free_54 : decode tp_bC_free 54 = .ok (.iload_n 1, 1) := by decide +kernel
theorem dC_free_55 : decode tp_bC_free 55 = .ok (.aload_n 0, 1) := by decide +kernel
theorem dC_free_56 : decode tp_bC_free 56 = .ok (.getfield 23, 3) := by decide +kernel
theorem dC_free_59 : decode tp_bC_free 59 = .ok (.iload_n 1, 1) := by decide +kernel
theorem dC_free_60 : decode tp_bC_free 60 = .ok (.iaload, 1) := by decide +kernel
theorem dC_free_61 : decode tp_bC_free 61 = .ok (.invokevirtual 69, 3) := by decide +kernel
theorem dC_free_64 : decode tp_bC_free 64 = .ok (.aload_n 0, 1) := by decide +kernel
theorem dC_free_65 : decode tp_bC_free 65 = .ok (.getfield 20, 3) := by decide +kernel
theorem dC_free_68 : decode tp_bC_free 68 = .ok (.iload_n 1, 1) := by decide +kernel
theorem dC_free_69 : decode tp_bC_free 69 = .ok (.iconst 0, 1) := by decide +kernel
theorem dC_free_70 : decode tp_bC_free 70 = .ok (.bastore, 1) := by decide +kernel
theorem dC_free_71 : decode tp_bC_free 71 = .ok (.iload_n 2, 1) := by decide +kernel
theorem dC_free_72 : decode tp_bC_free 72 = .ok (.ireturn, 1) := by decide +kernel
theorem dC_write_0 : decode tp_bC_write 0 = .ok (.aload_n 0, 1) := by decide +kernel
theorem dC_write_1 : decode tp_bC_write 1 = .ok (.iload_n 1, 1) := by decide +kernel
theorem dC_write_2 : decode tp_bC_write 2 = .ok (.invokevirtual 62, 3) := by decide +kernel
theorem dC_write_5 : decode tp_bC_write 5 = .ok (.ifCond .eq 12, 3) := by decide +kernel
theorem dC_write_8 : decode tp_bC_write 8 = .ok (.iload_n 2, 1) := by decide +kernel
theorem dC_write_9 : decode tp_bC_write 9 = .ok (.ifCond .lt 8, 3) := by decide +kernel
theorem dC_write_12 : decode tp_bC_write 12 = .ok (.iload_n 2, 1) := by decide +kernel
theorem dC_write_13 : decode tp_bC_write 13 = .ok (.iconst 4, 1) := by decide +kernel
theorem dC_write_14 : decode tp_bC_write 14 = .ok (.if_icmp .lt 11, 3) := by decide +kernel
theorem dC_write_17 : decode tp_bC_write 17 = .ok (.new 36, 3) := by decide +kernel
theorem dC_write_20 : decode tp_bC_write 20 = .ok (.dup, 1) := by decide +kernel
theorem dC_write_21 : decode tp_bC_write 21 = .ok (.invokespecial 38, 3) := by decide +kernel
theorem dC_write_24 : decode tp_bC_write 24 = .ok (.athrow, 1) := by decide +kernel
theorem dC_write_25 : decode tp_bC_write 25 = .ok (.aload_n 0, 1) := by decide +kernel
theorem dC_write_26 : decode tp_bC_write 26 = .ok (.iload_n 1, 1) := by decide +kernel
theorem dC_write_27 : decode tp_bC_write 27 = .ok (.invokevirtual 65, 3) := by decide +kernel
theorem dC_write_30 : decode tp_bC_write 30 = .ok (.ifCond .ne 11, 3) := by decide +kernel
theorem dC_write_33 : decode tp_bC_write 33 = .ok (.new 43, 3) := by decide +kernel
theorem dC_write_36 : decode tp_bC_write 36 = .ok (.dup, 1) := by decide +kernel
theorem dC_write_37 : decode tp_bC_write 37 = .ok (.invokespecial 45, 3) := by decide +kernel
theorem dC_write_40 : decode tp_bC_write 40 = .ok (.athrow, 1) := by decide +kernel
theorem dC_write_41 : decode tp_bC_write 41 = .ok (.aload_n 0, 1) := by decide +kernel
theorem dC_write_42 : decode tp_bC_write 42 = .ok (.getfield 29, 3) := by decide +kernel
theorem dC_write_45 : decode tp_bC_write 45 = .ok (.iload_n 1, 1) := by decide +kernel
theorem dC_write_46 : decode tp_bC_write 46 = .ok (.iconst 4, 1) := by decide +kernel
theorem dC_write_47 : decode tp_bC_write 47 = .ok (.imul, 1) := by decide +kernel
theorem dC_write_48 : decode tp_bC_write 48 = .ok (.iload_n 2, 1) := by decide +kernel
theorem dC_write_49 : decode tp_bC_write 49 = .ok (.iadd, 1) := by decide +kernel
theorem dC_write_50 : decode tp_bC_write 50 = .ok (.iload_n 3, 1) := by decide +kernel
theorem dC_write_51 : decode tp_bC_write 51 = .ok (.iastore, 1) := by decide +kernel
theorem dC_write_52 : decode tp_bC_write 52 = .ok (.return_, 1) := by decide +kernel
theorem dC_read_0 : decode tp_bC_read 0 = .ok (.aload_n 0, 1) := by decide +kernel
theorem dC_read_1 : decode tp_bC_read 1 = .ok (.iload_n 1, 1) := by decide +kernel
theorem dC_read_2 : decode tp_bC_read 2 = .ok (.invokevirtual 62, 3) := by decide +kernel
theorem dC_read_5 : decode tp_bC_read 5 = .ok (.ifCond .eq 12, 3) := by decide +kernel
theorem dC_read_8 : decode tp_bC_read 8 = .ok (.iload_n 2, 1) := by decide +kernel
theorem dC_read_9 : decode tp_bC_read 9 = .ok (.ifCond .lt 8, 3) := by decide +kernel
theorem dC_read_12 : decode tp_bC_read 12 = .ok (.iload_n 2, 1) := by decide +kernel
theorem dC_read_13 : decode tp_bC_read 13 = .ok (.iconst 4, 1) := by decide +kernel
theorem dC_read_14 : decode tp_bC_read 14 = .ok (.if_icmp .lt 11, 3) := by decide +kernel
theorem dC_read_17 : decode tp_bC_read 17 = .ok (.new 36, 3) := by decide +kernel
theorem dC_read_20 : decode tp_bC_read 20 = .ok (.dup, 1) := by decide +kernel
theorem dC_read_21 : decode tp_bC_read 21 = .ok (.invokespecial 38, 3) := by decide +kernel
theorem dC_read_24 : decode tp_bC_read 24 = .ok (.athrow, 1) := by decide +kernel
theorem dC_read_25 : decode tp_bC_read 25 = .ok (.aload_n 0, 1) := by decide +kernel
theorem dC_read_26 : decode tp_bC_read 26 = .ok (.iload_n 1, 1) := by decide +kernel
theorem dC_read_27 : decode tp_bC_read 27 = .ok (.invokevirtual 65, 3) := by decide +kernel
theorem dC_read_30 : decode tp_bC_read 30 = .ok (.ifCond .ne 11, 3) := by decide +kernel
theorem dC_read_33 : decode tp_bC_read 33 = .ok (.new 43, 3) := by decide +kernel
theorem dC_read_36 : decode tp_bC_read 36 = .ok (.dup, 1) := by decide +kernel
theorem dC_read_37 : decode tp_bC_read 37 = .ok (.invokespecial 45, 3) := by decide +kernel
theorem dC_read_40 : decode tp_bC_read 40 = .ok (.athrow, 1) := by decide +kernel
theorem dC_read_41 : decode tp_bC_read 41 = .ok (.aload_n 0, 1) := by decide +kernel
theorem dC_read_42 : decode tp_bC_read 42 = .ok (.getfield 29, 3) := by decide +kernel
theorem dC_read_45 : decode tp_bC_read 45 = .ok (.iload_n 1, 1) := by decide +kernel
theorem dC_read_46 : decode tp_bC_read 46 = .ok (.iconst 4, 1) := by decide +kernel
theorem dC_read_47 : decode tp_bC_read 47 = .ok (.imul, 1) := by decide +kernel
theorem dC_read_48 : decode tp_bC_read 48 = .ok (.iload_n 2, 1) := by decide +kernel
theorem dC_read_49 : decode tp_bC_read 49 = .ok (.iadd, 1) := by decide +kernel
theorem dC_read_50 : decode tp_bC_read 50 = .ok (.iaload, 1) := by decide +kernel
theorem dC_read_51 : decode tp_bC_read 51 = .ok (.ireturn, 1) := by decide +kernel
theorem dC_fail_0 : decode tp_bC_fail 0 = .ok (.aload_n 0, 1) := by decide +kernel
theorem dC_fail_1 : decode tp_bC_fail 1 = .ok (.iload_n 1, 1) := by decide +kernel
theorem dC_fail_2 : decode tp_bC_fail 2 = .ok (.invokevirtual 39, 3) := by decide +kernel
theorem dC_fail_5 : decode tp_bC_fail 5 = .ok (.ifCond .ne 11, 3) := by decide +kernel
theorem dC_fail_8 : decode tp_bC_fail 8 = .ok (.new 36, 3) := by decide +kernel
theorem dC_fail_11 : decode tp_bC_fail 11 = .ok (.dup, 1) := by decide +kernel
theorem dC_fail_12 : decode tp_bC_fail 12 = .ok (.invokespecial 38, 3) := by decide +kernel
theorem dC_fail_15 : decode tp_bC_fail 15 = .ok (.athrow, 1) := by decide +kernel
theorem dC_fail_16 : decode tp_bC_fail 16 = .ok (.aload_n 0, 1) := by decide +kernel
theorem dC_fail_17 : decode tp_bC_fail 17 = .ok (.getfield 13, 3) := by decide +kernel
theorem dC_fail_20 : decode tp_bC_fail 20 = .ok (.iload_n 1, 1) := by decide +kernel
theorem dC_fail_21 : decode tp_bC_fail 21 = .ok (.iaload, 1) := by decide +kernel
theorem dC_fail_22 : decode tp_bC_fail 22 = .ok (.istore_n 2, 1) := by decide +kernel
theorem dC_fail_23 : decode tp_bC_fail 23 = .ok (.iconst 0, 1) := by decide +kernel
theorem dC_fail_24 : decode tp_bC_fail 24 = .ok (.istore_n 3, 1) := by decide +kernel
theorem dC_fail_25 : decode tp_bC_fail 25 = .ok (.iload_n 3, 1) := by decide +kernel
theorem dC_fail_26 : decode tp_bC_fail 26 = .ok (.sipush 400, 3) := by decide +kernel
theorem dC_fail_29 : decode tp_bC_fail 29 = .ok (.if_icmp .ge 24, 3) := by decide +kernel
theorem dC_fail_32 : decode tp_bC_fail 32 = .ok (.aload_n 0, 1) := by decide +kernel
theorem dC_fail_33 : decode tp_bC_fail 33 = .ok (.iload_n 3, 1) := by decide +kernel
theorem dC_fail_34 : decode tp_bC_fail 34 = .ok (.iload_n 1, 1) := by decide +kernel
theorem dC_fail_35 : decode tp_bC_fail 35 = .ok (.invokevirtual 73, 3) := by decide +kernel
theorem dC_fail_38 : decode tp_bC_fail 38 = .ok (.ifCond .eq 9, 3) := by decide +kernel
theorem dC_fail_41 : decode tp_bC_fail 41 = .ok (.aload_n 0, 1) := by decide +kernel
theorem dC_fail_42 : decode tp_bC_fail 42 = .ok (.iload_n 3, 1) := by decide +kernel
theorem dC_fail_43 : decode tp_bC_fail 43 = .ok (.iload_n 1, 1) := by decide +kernel
theorem dC_fail_44 : decode tp_bC_fail 44 = .ok (.invokevirtual 69, 3) := by decide +kernel
theorem dC_fail_47 : decode tp_bC_fail 47 = .ok (.iinc 3 1, 3) := by decide +kernel
theorem dC_fail_50 : decode tp_bC_fail 50 = .ok (.goto (-25), 3) := by decide +kernel
theorem dC_fail_53 : decode tp_bC_fail 53 = .ok (.aload_n 0, 1) := by decide +kernel
theorem dC_fail_54 : decode tp_bC_fail 54 = .ok (.iload_n 1, 1) := by decide +kernel
theorem dC_fail_55 : decode tp_bC_fail 55 = .ok (.invokevirtual 77, 3) := by decide +kernel
theorem dC_fail_58 : decode tp_bC_fail 58 = .ok (.iload_n 2, 1) := by decide +kernel
theorem dC_fail_59 : decode tp_bC_fail 59 = .ok (.ireturn, 1) := by decide +kernel
theorem dC_leave_0 : decode tp_bC_leave 0 = .ok (.aload_n 0, 1) := by decide +kernel
theorem dC_leave_1 : decode tp_bC_leave 1 = .ok (.iload_n 1, 1) := by decide +kernel
theorem dC_leave_2 : decode tp_bC_leave 2 = .ok (.invokevirtual 39, 3) := by decide +kernel
theorem dC_leave_5 : decode tp_bC_leave 5 = .ok (.ifCond .ne 11, 3) := by decide +kernel
theorem dC_leave_8 : decode tp_bC_leave 8 = .ok (.new 36, 3) := by decide +kernel
theorem dC_leave_11 : decode tp_bC_leave 11 = .ok (.dup, 1) := by decide +kernel
theorem dC_leave_12 : decode tp_bC_leave 12 = .ok (.invokespecial 38, 3) := by decide +kernel
theorem dC_leave_15 : decode tp_bC_leave 15 = .ok (.athrow, 1) := by decide +kernel
theorem dC_leave_16 : decode tp_bC_leave 16 = .ok (.aload_n 0, 1) := by decide +kernel
theorem dC_leave_17 : decode tp_bC_leave 17 = .ok (.getfield 16, 3) := by decide +kernel
theorem dC_leave_20 : decode tp_bC_leave 20 = .ok (.iload_n 1, 1) := by decide +kernel
theorem dC_leave_21 : decode tp_bC_leave 21 = .ok (.baload, 1) := by decide +kernel
theorem dC_leave_22 : decode tp_bC_leave 22 = .ok (.ifCond .ne 15, 3) := by decide +kernel
theorem dC_leave_25 : decode tp_bC_leave 25 = .ok (.aload_n 0, 1) := by decide +kernel
theorem dC_leave_26 : decode tp_bC_leave 26 = .ok (.iconst 2, 1) := by decide +kernel
theorem dC_leave_27 : decode tp_bC_leave 27 = .ok (.invokevirtual 81, 3) := by decide +kernel
theorem dC_leave_30 : decode tp_bC_leave 30 = .ok (.aload_n 0, 1) := by decide +kernel
theorem dC_leave_31 : decode tp_bC_leave 31 = .ok (.invokevirtual 84, 3) := by decide +kernel
theorem dC_leave_34 : decode tp_bC_leave 34 = .ok (.if_icmp .ge 11, 3) := by decide +kernel
theorem dC_leave_37 : decode tp_bC_leave 37 = .ok (.new 43, 3) := by decide +kernel
theorem dC_leave_40 : decode tp_bC_leave 40 = .ok (.dup, 1) := by decide +kernel
theorem dC_leave_41 : decode tp_bC_leave 41 = .ok (.invokespecial 45, 3) := by decide +kernel
theorem dC_leave_44 : decode tp_bC_leave 44 = .ok (.athrow, 1) := by decide +kernel
theorem dC_leave_45 : decode tp_bC_leave 45 = .ok (.aload_n 0, 1) := by decide +kernel
theorem dC_leave_46 : decode tp_bC_leave 46 = .ok (.invokevirtual 84, 3) := by decide +kernel
theorem dC_leave_49 : decode tp_bC_leave 49 = .ok (.aload_n 0, 1) := by decide +kernel
theorem dC_leave_50 : decode tp_bC_leave 50 = .ok (.iload_n 1, 1) := by decide +kernel
theorem dC_leave_51 : decode tp_bC_leave 51 = .ok (.invokevirtual 87, 3) := by decide +kernel
theorem dC_leave_54 : decode tp_bC_leave 54 = .ok (.if_icmp .le 11, 3) := by decide +kernel
theorem dC_leave_57 : decode tp_bC_leave 57 = .ok (.new 53, 3) := by decide +kernel
theorem dC_leave_60 : decode tp_bC_leave 60 = .ok (.dup, 1) := by decide +kernel
theorem dC_leave_61 : decode tp_bC_leave 61 = .ok (.invokespecial 55, 3) := by decide +kernel
theorem dC_leave_64 : decode tp_bC_leave 64 = .ok (.athrow, 1) := by decide +kernel
theorem dC_leave_65 : decode tp_bC_leave 65 = .ok (.aload_n 0, 1) := by decide +kernel
theorem dC_leave_66 : decode tp_bC_leave 66 = .ok (.getfield 16, 3) := by decide +kernel
theorem dC_leave_69 : decode tp_bC_leave 69 = .ok (.iload_n 1, 1) := by decide +kernel
theorem dC_leave_70 : decode tp_bC_leave 70 = .ok (.iconst 1, 1) := by decide +kernel
theorem dC_leave_71 : decode tp_bC_leave 71 = .ok (.bastore, 1) := by decide +kernel
theorem dC_leave_72 : decode tp_bC_leave 72 = .ok (.aload_n 0, 1) := by decide +kernel
theorem dC_leave_73 : decode tp_bC_leave 73 = .ok (.getfield 13, 3) := by decide +kernel
theorem dC_leave_76 : decode tp_bC_leave 76 = .ok (.iload_n 1, 1) := by decide +kernel
end
section
theorem dC_leave_77 : decode tp_bC_leave 77 = .ok (.iaload, 1) := by decide +kernel
theorem dC_leave_78 : decode tp_bC_leave 78 = .ok (.istore_n 2, 1) := by decide +kernel
theorem dC_leave_79 : decode tp_bC_leave 79 = .ok (.aload_n 0, 1) := by decide +kernel
theorem dC_leave_80 : decode tp_bC_leave 80 = .ok (.iload_n 1, 1) := by decide +kernel
theorem dC_leave_81 : decode tp_bC_leave 81 = .ok (.invokevirtual 90, 3) := by decide +kernel
theorem dC_leave_84 : decode tp_bC_leave 84 = .ok (.ifCond .eq 8, 3) := by decide +kernel
theorem dC_leave_87 : decode tp_bC_leave 87 = .ok (.aload_n 0, 1) := by decide +kernel
theorem dC_leave_88 : decode tp_bC_leave 88 = .ok (.iload_n 1, 1) := by decide +kernel
theorem dC_leave_89 : decode tp_bC_leave 89 = .ok (.invokevirtual 77, 3) := by decide +kernel
theorem dC_leave_92 : decode tp_bC_leave 92 = .ok (.iload_n 2, 1) := by decide +kernel
theorem dC_leave_93 : decode tp_bC_leave 93 = .ok (.ireturn, 1) := by decide +kernel
theorem dC_stay_0 : decode tp_bC_stay 0 = .ok (.aload_n 0, 1) := by decide +kernel
theorem dC_stay_1 : decode tp_bC_stay 1 = .ok (.iload_n 1, 1) := by decide +kernel
theorem dC_stay_2 : decode tp_bC_stay 2 = .ok (.invokevirtual 39, 3) := by decide +kernel
theorem dC_stay_5 : decode tp_bC_stay 5 = .ok (.ifCond .ne 11, 3) := by decide +kernel
theorem dC_stay_8 : decode tp_bC_stay 8 = .ok (.new 36, 3) := by decide +kernel
theorem dC_stay_11 : decode tp_bC_stay 11 = .ok (.dup, 1) := by decide +kernel
theorem dC_stay_12 : decode tp_bC_stay 12 = .ok (.invokespecial 38, 3) := by decide +kernel
theorem dC_stay_15 : decode tp_bC_stay 15 = .ok (.athrow, 1) := by decide +kernel
theorem dC_stay_16 : decode tp_bC_stay 16 = .ok (.aload_n 0, 1) := by decide +kernel
theorem dC_stay_17 : decode tp_bC_stay 17 = .ok (.getfield 16, 3) := by decide +kernel
theorem dC_stay_20 : decode tp_bC_stay 20 = .ok (.iload_n 1, 1) := by decide +kernel
theorem dC_stay_21 : decode tp_bC_stay 21 = .ok (.baload, 1) := by decide +kernel
theorem dC_stay_22 : decode tp_bC_stay 22 = .ok (.ifCond .ne 11, 3) := by decide +kernel
theorem dC_stay_25 : decode tp_bC_stay 25 = .ok (.new 43, 3) := by decide +kernel
theorem dC_stay_28 : decode tp_bC_stay 28 = .ok (.dup, 1) := by decide +kernel
theorem dC_stay_29 : decode tp_bC_stay 29 = .ok (.invokespecial 45, 3) := by decide +kernel
theorem dC_stay_32 : decode tp_bC_stay 32 = .ok (.athrow, 1) := by decide +kernel
theorem dC_stay_33 : decode tp_bC_stay 33 = .ok (.aload_n 0, 1) := by decide +kernel
theorem dC_stay_34 : decode tp_bC_stay 34 = .ok (.getfield 16, 3) := by decide +kernel
theorem dC_stay_37 : decode tp_bC_stay 37 = .ok (.iload_n 1, 1) := by decide +kernel
theorem dC_stay_38 : decode tp_bC_stay 38 = .ok (.iconst 0, 1) := by decide +kernel
theorem dC_stay_39 : decode tp_bC_stay 39 = .ok (.bastore, 1) := by decide +kernel
theorem dC_stay_40 : decode tp_bC_stay 40 = .ok (.return_, 1) := by decide +kernel
theorem dC_step_0 : decode tp_bC_step 0 = .ok (.aload_n 0, 1) := by decide +kernel
theorem dC_step_1 : decode tp_bC_step 1 = .ok (.invokevirtual 93, 3) := by decide +kernel
theorem dC_step_4 : decode tp_bC_step 4 = .ok (.ireturn, 1) := by decide +kernel
theorem dC_steps_0 : decode tp_bC_steps 0 = .ok (.iload_n 1, 1) := by decide +kernel
theorem dC_steps_1 : decode tp_bC_steps 1 = .ok (.ifCond .ge 11, 3) := by decide +kernel
theorem dC_steps_4 : decode tp_bC_steps 4 = .ok (.new 46, 3) := by decide +kernel
theorem dC_steps_7 : decode tp_bC_steps 7 = .ok (.dup, 1) := by decide +kernel
theorem dC_steps_8 : decode tp_bC_steps 8 = .ok (.invokespecial 48, 3) := by decide +kernel
theorem dC_steps_11 : decode tp_bC_steps 11 = .ok (.athrow, 1) := by decide +kernel
theorem dC_steps_12 : decode tp_bC_steps 12 = .ok (.iload_n 1, 1) := by decide +kernel
theorem dC_steps_13 : decode tp_bC_steps 13 = .ok (.ldc 96, 2) := by decide +kernel
theorem dC_steps_15 : decode tp_bC_steps 15 = .ok (.invokestatic 56, 3) := by decide +kernel
theorem dC_steps_18 : decode tp_bC_steps 18 = .ok (.istore_n 2, 1) := by decide +kernel
theorem dC_steps_19 : decode tp_bC_steps 19 = .ok (.iconst 0, 1) := by decide +kernel
theorem dC_steps_20 : decode tp_bC_steps 20 = .ok (.istore_n 3, 1) := by decide +kernel
theorem dC_steps_21 : decode tp_bC_steps 21 = .ok (.iload_n 3, 1) := by decide +kernel
theorem dC_steps_22 : decode tp_bC_steps 22 = .ok (.iload_n 2, 1) := by decide +kernel
theorem dC_steps_23 : decode tp_bC_steps 23 = .ok (.if_icmp .ge 16, 3) := by decide +kernel
theorem dC_steps_26 : decode tp_bC_steps 26 = .ok (.aload_n 0, 1) := by decide +kernel
theorem dC_steps_27 : decode tp_bC_steps 27 = .ok (.invokevirtual 93, 3) := by decide +kernel
theorem dC_steps_30 : decode tp_bC_steps 30 = .ok (.ifCond .eq 9, 3) := by decide +kernel
theorem dC_steps_33 : decode tp_bC_steps 33 = .ok (.iinc 3 1, 3) := by decide +kernel
theorem dC_steps_36 : decode tp_bC_steps 36 = .ok (.goto (-15), 3) := by decide +kernel
theorem dC_steps_39 : decode tp_bC_steps 39 = .ok (.iload_n 3, 1) := by decide +kernel
theorem dC_steps_40 : decode tp_bC_steps 40 = .ok (.ireturn, 1) := by decide +kernel
theorem dC_place_0 : decode tp_bC_place 0 = .ok (.aload_n 0, 1) := by decide +kernel
theorem dC_place_1 : decode tp_bC_place 1 = .ok (.iload_n 1, 1) := by decide +kernel
theorem dC_place_2 : decode tp_bC_place 2 = .ok (.invokevirtual 62, 3) := by decide +kernel
theorem dC_place_5 : decode tp_bC_place 5 = .ok (.ifCond .ne 11, 3) := by decide +kernel
theorem dC_place_8 : decode tp_bC_place 8 = .ok (.new 36, 3) := by decide +kernel
theorem dC_place_11 : decode tp_bC_place 11 = .ok (.dup, 1) := by decide +kernel
theorem dC_place_12 : decode tp_bC_place 12 = .ok (.invokespecial 38, 3) := by decide +kernel
theorem dC_place_15 : decode tp_bC_place 15 = .ok (.athrow, 1) := by decide +kernel
theorem dC_place_16 : decode tp_bC_place 16 = .ok (.iload_n 2, 1) := by decide +kernel
theorem dC_place_17 : decode tp_bC_place 17 = .ok (.ifCond .eq 12, 3) := by decide +kernel
theorem dC_place_20 : decode tp_bC_place 20 = .ok (.aload_n 0, 1) := by decide +kernel
theorem dC_place_21 : decode tp_bC_place 21 = .ok (.getfield 26, 3) := by decide +kernel
theorem dC_place_24 : decode tp_bC_place 24 = .ok (.iload_n 1, 1) := by decide +kernel
theorem dC_place_25 : decode tp_bC_place 25 = .ok (.iaload, 1) := by decide +kernel
theorem dC_place_26 : decode tp_bC_place 26 = .ok (.goto 9, 3) := by decide +kernel
theorem dC_place_29 : decode tp_bC_place 29 = .ok (.aload_n 0, 1) := by decide +kernel
theorem dC_place_30 : decode tp_bC_place 30 = .ok (.getfield 23, 3) := by decide +kernel
theorem dC_place_33 : decode tp_bC_place 33 = .ok (.iload_n 1, 1) := by decide +kernel
theorem dC_place_34 : decode tp_bC_place 34 = .ok (.iaload, 1) := by decide +kernel
theorem dC_place_35 : decode tp_bC_place 35 = .ok (.ireturn, 1) := by decide +kernel
theorem dC_about_0 : decode tp_bC_about 0 = .ok (.aload_n 0, 1) := by decide +kernel
theorem dC_about_1 : decode tp_bC_about 1 = .ok (.iload_n 1, 1) := by decide +kernel
theorem dC_about_2 : decode tp_bC_about 2 = .ok (.invokevirtual 39, 3) := by decide +kernel
theorem dC_about_5 : decode tp_bC_about 5 = .ok (.ifCond .ne 11, 3) := by decide +kernel
theorem dC_about_8 : decode tp_bC_about 8 = .ok (.new 36, 3) := by decide +kernel
theorem dC_about_11 : decode tp_bC_about 11 = .ok (.dup, 1) := by decide +kernel
theorem dC_about_12 : decode tp_bC_about 12 = .ok (.invokespecial 38, 3) := by decide +kernel
theorem dC_about_15 : decode tp_bC_about 15 = .ok (.athrow, 1) := by decide +kernel
theorem dC_about_16 : decode tp_bC_about 16 = .ok (.iload_n 2, 1) := by decide +kernel
theorem dC_about_17 : decode tp_bC_about 17 = .ok (.tableswitch 65 0 3 #[31, 38, 44, 59], 31) := by decide +kernel
theorem dC_about_48 : decode tp_bC_about 48 = .ok (.aload_n 0, 1) := by decide +kernel
theorem dC_about_49 : decode tp_bC_about 49 = .ok (.getfield 9, 3) := by decide +kernel
theorem dC_about_52 : decode tp_bC_about 52 = .ok (.iload_n 1, 1) := by decide +kernel
theorem dC_about_53 : decode tp_bC_about 53 = .ok (.iaload, 1) := by decide +kernel
theorem dC_about_54 : decode tp_bC_about 54 = .ok (.ireturn, 1) := by decide +kernel
theorem dC_about_55 : decode tp_bC_about 55 = .ok (.aload_n 0, 1) := by decide +kernel
theorem dC_about_56 : decode tp_bC_about 56 = .ok (.iload_n 1, 1) := by decide +kernel
theorem dC_about_57 : decode tp_bC_about 57 = .ok (.invokevirtual 97, 3) := by decide +kernel
theorem dC_about_60 : decode tp_bC_about 60 = .ok (.ireturn, 1) := by decide +kernel
theorem dC_about_61 : decode tp_bC_about 61 = .ok (.aload_n 0, 1) := by decide +kernel
theorem dC_about_62 : decode tp_bC_about 62 = .ok (.getfield 16, 3) := by decide +kernel
theorem dC_about_65 : decode tp_bC_about 65 = .ok (.iload_n 1, 1) := by decide +kernel
theorem dC_about_66 : decode tp_bC_about 66 = .ok (.baload, 1) := by decide +kernel
theorem dC_about_67 : decode tp_bC_about 67 = .ok (.ifCond .eq 7, 3) := by decide +kernel
theorem dC_about_70 : decode tp_bC_about 70 = .ok (.iconst 1, 1) := by decide +kernel
theorem dC_about_71 : decode tp_bC_about 71 = .ok (.goto 4, 3) := by decide +kernel
theorem dC_about_74 : decode tp_bC_about 74 = .ok (.iconst 0, 1) := by decide +kernel
theorem dC_about_75 : decode tp_bC_about 75 = .ok (.ireturn, 1) := by decide +kernel
theorem dC_about_76 : decode tp_bC_about 76 = .ok (.aload_n 0, 1) := by decide +kernel
theorem dC_about_77 : decode tp_bC_about 77 = .ok (.iload_n 1, 1) := by decide +kernel
theorem dC_about_78 : decode tp_bC_about 78 = .ok (.invokevirtual 100, 3) := by decide +kernel
theorem dC_about_81 : decode tp_bC_about 81 = .ok (.ireturn, 1) := by decide +kernel
theorem dC_about_82 : decode tp_bC_about 82 = .ok (.new 46, 3) := by decide +kernel
theorem dC_about_85 : decode tp_bC_about 85 = .ok (.dup, 1) := by decide +kernel
theorem dC_about_86 : decode tp_bC_about 86 = .ok (.invokespecial 48, 3) := by decide +kernel
theorem dC_about_89 : decode tp_bC_about 89 = .ok (.athrow, 1) := by decide +kernel
theorem dC_count_0 : decode tp_bC_count 0 = .ok (.iload_n 1, 1) := by decide +kernel
theorem dC_count_1 : decode tp_bC_count 1 = .ok (.tableswitch 81 0 6 #[43, 48, 53, 59, 65, 71, 76], 43) := by decide +kernel
theorem dC_count_44 : decode tp_bC_count 44 = .ok (.aload_n 0, 1) := by decide +kernel
theorem dC_count_45 : decode tp_bC_count 45 = .ok (.invokevirtual 103, 3) := by decide +kernel
theorem dC_count_48 : decode tp_bC_count 48 = .ok (.ireturn, 1) := by decide +kernel
theorem dC_count_49 : decode tp_bC_count 49 = .ok (.aload_n 0, 1) := by decide +kernel
theorem dC_count_50 : decode tp_bC_count 50 = .ok (.invokevirtual 84, 3) := by decide +kernel
theorem dC_count_53 : decode tp_bC_count 53 = .ok (.ireturn, 1) := by decide +kernel
theorem dC_count_54 : decode tp_bC_count 54 = .ok (.aload_n 0, 1) := by decide +kernel
theorem dC_count_55 : decode tp_bC_count 55 = .ok (.iconst (-1), 1) := by decide +kernel
theorem dC_count_56 : decode tp_bC_count 56 = .ok (.invokevirtual 87, 3) := by decide +kernel
theorem dC_count_59 : decode tp_bC_count 59 = .ok (.ireturn, 1) := by decide +kernel
theorem dC_count_60 : decode tp_bC_count 60 = .ok (.aload_n 0, 1) := by decide +kernel
theorem dC_count_61 : decode tp_bC_count 61 = .ok (.iconst 1, 1) := by decide +kernel
theorem dC_count_62 : decode tp_bC_count 62 = .ok (.invokevirtual 81, 3) := by decide +kernel
theorem dC_count_65 : decode tp_bC_count 65 = .ok (.ireturn, 1) := by decide +kernel
theorem dC_count_66 : decode tp_bC_count 66 = .ok (.aload_n 0, 1) := by decide +kernel
theorem dC_count_67 : decode tp_bC_count 67 = .ok (.iconst 0, 1) := by decide +kernel
theorem dC_count_68 : decode tp_bC_count 68 = .ok (.invokevirtual 81, 3) := by decide +kernel
theorem dC_count_71 : decode tp_bC_count 71 = .ok (.ireturn, 1) := by decide +kernel
theorem dC_count_72 : decode tp_bC_count 72 = .ok (.aload_n 0, 1) := by decide +kernel
theorem dC_count_73 : decode tp_bC_count 73 = .ok (.invokevirtual 106, 3) := by decide +kernel
theorem dC_count_76 : decode tp_bC_count 76 = .ok (.ireturn, 1) := by decide +kernel
theorem dC_count_77 : decode tp_bC_count 77 = .ok (.aload_n 0, 1) := by decide +kernel
theorem dC_count_78 : decode tp_bC_count 78 = .ok (.getfield 32, 3) := by decide +kernel
theorem dC_count_81 : decode tp_bC_count 81 = .ok (.ireturn, 1) := by decide +kernel
theorem dC_count_82 : decode tp_bC_count 82 = .ok (.new 46, 3) := by decide +kernel
theorem dC_count_85 : decode tp_bC_count 85 = .ok (.dup, 1) := by decide +kernel
theorem dC_count_86 : decode tp_bC_count 86 = .ok (.invokespecial 48, 3) := by decide +kernel
theorem dC_count_89 : decode tp_bC_count 89 = .ok (.athrow, 1) := by decide +kernel
theorem dC_isThere_0 : decode tp_bC_isThere 0 = .ok (.iload_n 1, 1) := by decide +kernel
theorem dC_isThere_1 : decode tp_bC_isThere 1 = .ok (.ifCond .lt 22, 3) := by decide +kernel
theorem dC_isThere_4 : decode tp_bC_isThere 4 = .ok (.iload_n 1, 1) := by decide +kernel
theorem dC_isThere_5 : decode tp_bC_isThere 5 = .ok (.bipush 12, 2) := by decide +kernel
theorem dC_isThere_7 : decode tp_bC_isThere 7 = .ok (.if_icmp .ge 16, 3) := by decide +kernel
theorem dC_isThere_10 : decode tp_bC_isThere 10 = .ok (.aload_n 0, 1) := by decide +kernel
theorem dC_isThere_11 : decode tp_bC_isThere 11 = .ok (.getfield 9, 3) := by decide +kernel
theorem dC_isThere_14 : decode tp_bC_isThere 14 = .ok (.iload_n 1, 1) := by decide +kernel
theorem dC_isThere_15 : decode tp_bC_isThere 15 = .ok (.iaload, 1) := by decide +kernel
theorem dC_isThere_16 : decode tp_bC_isThere 16 = .ok (.ifCond .le 7, 3) := by decide +kernel
theorem dC_isThere_19 : decode tp_bC_isThere 19 = .ok (.iconst 1, 1) := by decide +kernel
theorem dC_isThere_20 : decode tp_bC_isThere 20 = .ok (.goto 4, 3) := by decide +kernel
theorem dC_isThere_23 : decode tp_bC_isThere 23 = .ok (.iconst 0, 1) := by decide +kernel
theorem dC_isThere_24 : decode tp_bC_isThere 24 = .ok (.ireturn, 1) := by decide +kernel
theorem dC_stays_0 : decode tp_bC_stays 0 = .ok (.aload_n 0, 1) := by decide +kernel
theorem dC_stays_1 : decode tp_bC_stays 1 = .ok (.iload_n 1, 1) := by decide +kernel
theorem dC_stays_2 : decode tp_bC_stays 2 = .ok (.invokevirtual 39, 3) := by decide +kernel
theorem dC_stays_5 : decode tp_bC_stays 5 = .ok (.ifCond .eq 16, 3) := by decide +kernel
theorem dC_stays_8 : decode tp_bC_stays 8 = .ok (.aload_n 0, 1) := by decide +kernel
theorem dC_stays_9 : decode tp_bC_stays 9 = .ok (.getfield 16, 3) := by decide +kernel
theorem dC_stays_12 : decode tp_bC_stays 12 = .ok (.iload_n 1, 1) := by decide +kernel
theorem dC_stays_13 : decode tp_bC_stays 13 = .ok (.baload, 1) := by decide +kernel
theorem dC_stays_14 : decode tp_bC_stays 14 = .ok (.ifCond .ne 7, 3) := by decide +kernel
theorem dC_stays_17 : decode tp_bC_stays 17 = .ok (.iconst 1, 1) := by decide +kernel
theorem dC_stays_18 : decode tp_bC_stays 18 = .ok (.goto 4, 3) := by decide +kernel
theorem dC_stays_21 : decode tp_bC_stays 21 = .ok (.iconst 0, 1) := by decide +kernel
theorem dC_stays_22 : decode tp_bC_stays 22 = .ok (.ireturn, 1) := by decide +kernel
theorem dC_freePlaces_0 : decode tp_bC_freePlaces 0 = .ok (.aload_n 0, 1) := by decide +kernel
theorem dC_freePlaces_1 : decode tp_bC_freePlaces 1 = .ok (.getfield 9, 3) := by decide +kernel
theorem dC_freePlaces_4 : decode tp_bC_freePlaces 4 = .ok (.iload_n 1, 1) := by decide +kernel
theorem dC_freePlaces_5 : decode tp_bC_freePlaces 5 = .ok (.iaload, 1) := by decide +kernel
theorem dC_freePlaces_6 : decode tp_bC_freePlaces 6 = .ok (.aload_n 0, 1) := by decide +kernel
theorem dC_freePlaces_7 : decode tp_bC_freePlaces 7 = .ok (.getfield 13, 3) := by decide +kernel
theorem dC_freePlaces_10 : decode tp_bC_freePlaces 10 = .ok (.iload_n 1, 1) := by decide +kernel
theorem dC_freePlaces_11 : decode tp_bC_freePlaces 11 = .ok (.iaload, 1) := by decide +kernel
theorem dC_freePlaces_12 : decode tp_bC_freePlaces 12 = .ok (.isub, 1) := by decide +kernel
theorem dC_freePlaces_13 : decode tp_bC_freePlaces 13 = .ok (.ireturn, 1) := by decide +kernel
theorem dC_staysWithRoom_0 : decode tp_bC_staysWithRoom 0 = .ok (.aload_n 0, 1) := by decide +kernel
theorem dC_staysWithRoom_1 : decode tp_bC_staysWithRoom 1 = .ok (.iload_n 1, 1) := by decide +kernel
theorem dC_staysWithRoom_2 : decode tp_bC_staysWithRoom 2 = .ok (.invokevirtual 109, 3) := by decide +kernel
theorem dC_staysWithRoom_5 : decode tp_bC_staysWithRoom 5 = .ok (.ifCond .eq 15, 3) := by decide +kernel
theorem dC_staysWithRoom_8 : decode tp_bC_staysWithRoom 8 = .ok (.aload_n 0, 1) := by decide +kernel
theorem dC_staysWithRoom_9 : decode tp_bC_staysWithRoom 9 = .ok (.iload_n 1, 1) := by decide +kernel
theorem dC_staysWithRoom_10 : decode tp_bC_staysWithRoom 10 = .ok (.invokevirtual 97, 3) := by decide +kernel
theorem dC_staysWithRoom_13 : decode tp_bC_staysWithRoom 13 = .ok (.ifCond .le 7, 3) := by decide +kernel
theorem dC_staysWithRoom_16 : decode tp_bC_staysWithRoom 16 = .ok (.iconst 1, 1) := by decide +kernel
theorem dC_staysWithRoom_17 : decode tp_bC_staysWithRoom 17 = .ok (.goto 4, 3) := by decide +kernel
theorem dC_staysWithRoom_20 : decode tp_bC_staysWithRoom 20 = .ok (.iconst 0, 1) := by decide +kernel
theorem dC_staysWithRoom_21 : decode tp_bC_staysWithRoom 21 = .ok (.ireturn, 1) := by decide +kernel
theorem dC_takeAway_0 : decode tp_bC_takeAway 0 = .ok (.aload_n 0, 1) := by decide +kernel
theorem dC_takeAway_1 : decode tp_bC_takeAway 1 = .ok (.getfield 9, 3) := by decide +kernel
theorem dC_takeAway_4 : decode tp_bC_takeAway 4 = .ok (.iload_n 1, 1) := by decide +kernel
theorem dC_takeAway_5 : decode tp_bC_takeAway 5 = .ok (.iconst 0, 1) := by decide +kernel
theorem dC_takeAway_6 : decode tp_bC_takeAway 6 = .ok (.iastore, 1) := by decide +kernel
theorem dC_takeAway_7 : decode tp_bC_takeAway 7 = .ok (.aload_n 0, 1) := by decide +kernel
theorem dC_takeAway_8 : decode tp_bC_takeAway 8 = .ok (.getfield 16, 3) := by decide +kernel
theorem dC_takeAway_11 : decode tp_bC_takeAway 11 = .ok (.iload_n 1, 1) := by decide +kernel
theorem dC_takeAway_12 : decode tp_bC_takeAway 12 = .ok (.iconst 0, 1) := by decide +kernel
theorem dC_takeAway_13 : decode tp_bC_takeAway 13 = .ok (.bastore, 1) := by decide +kernel
theorem dC_takeAway_14 : decode tp_bC_takeAway 14 = .ok (.return_, 1) := by decide +kernel
theorem dC_hasLeft_0 : decode tp_bC_hasLeft 0 = .ok (.aload_n 0, 1) := by decide +kernel
theorem dC_hasLeft_1 : decode tp_bC_hasLeft 1 = .ok (.getfield 16, 3) := by decide +kernel
theorem dC_hasLeft_4 : decode tp_bC_hasLeft 4 = .ok (.iload_n 1, 1) := by decide +kernel
theorem dC_hasLeft_5 : decode tp_bC_hasLeft 5 = .ok (.baload, 1) := by decide +kernel
theorem dC_hasLeft_6 : decode tp_bC_hasLeft 6 = .ok (.ifCond .eq 16, 3) := by decide +kernel
theorem dC_hasLeft_9 : decode tp_bC_hasLeft 9 = .ok (.aload_n 0, 1) := by decide +kernel
theorem dC_hasLeft_10 : decode tp_bC_hasLeft 10 = .ok (.getfield 13, 3) := by decide +kernel
theorem dC_hasLeft_13 : decode tp_bC_hasLeft 13 = .ok (.iload_n 1, 1) := by decide +kernel
theorem dC_hasLeft_14 : decode tp_bC_hasLeft 14 = .ok (.iaload, 1) := by decide +kernel
theorem dC_hasLeft_15 : decode tp_bC_hasLeft 15 = .ok (.ifCond .ne 7, 3) := by decide +kernel
theorem dC_hasLeft_18 : decode tp_bC_hasLeft 18 = .ok (.iconst 1, 1) := by decide +kernel
theorem dC_hasLeft_19 : decode tp_bC_hasLeft 19 = .ok (.goto 4, 3) := by decide +kernel
theorem dC_hasLeft_22 : decode tp_bC_hasLeft 22 = .ok (.iconst 0, 1) := by decide +kernel
theorem dC_hasLeft_23 : decode tp_bC_hasLeft 23 = .ok (.ireturn, 1) := by decide +kernel
theorem dC_emptiestBut_0 : decode tp_bC_emptiestBut 0 = .ok (.iconst (-1), 1) := by decide +kernel
theorem dC_emptiestBut_1 : decode tp_bC_emptiestBut 1 = .ok (.istore_n 2, 1) := by decide +kernel
theorem dC_emptiestBut_2 : decode tp_bC_emptiestBut 2 = .ok (.iconst 0, 1) := by decide +kernel
theorem dC_emptiestBut_3 : decode tp_bC_emptiestBut 3 = .ok (.istore_n 3, 1) := by decide +kernel
theorem dC_emptiestBut_4 : decode tp_bC_emptiestBut 4 = .ok (.iconst 0, 1) := by decide +kernel
theorem dC_emptiestBut_5 : decode tp_bC_emptiestBut 5 = .ok (.istore 4, 2) := by decide +kernel
theorem dC_emptiestBut_7 : decode tp_bC_emptiestBut 7 = .ok (.iload 4, 2) := by decide +kernel
theorem dC_emptiestBut_9 : decode tp_bC_emptiestBut 9 = .ok (.bipush 12, 2) := by decide +kernel
theorem dC_emptiestBut_11 : decode tp_bC_emptiestBut 11 = .ok (.if_icmp .ge 44, 3) := by decide +kernel
theorem dC_emptiestBut_14 : decode tp_bC_emptiestBut 14 = .ok (.iload 4, 2) := by decide +kernel
theorem dC_emptiestBut_16 : decode tp_bC_emptiestBut 16 = .ok (.iload_n 1, 1) := by decide +kernel
theorem dC_emptiestBut_17 : decode tp_bC_emptiestBut 17 = .ok (.if_icmp .eq 32, 3) := by decide +kernel
theorem dC_emptiestBut_20 : decode tp_bC_emptiestBut 20 = .ok (.aload_n 0, 1) := by decide +kernel
theorem dC_emptiestBut_21 : decode tp_bC_emptiestBut 21 = .ok (.iload 4, 2) := by decide +kernel
theorem dC_emptiestBut_23 : decode tp_bC_emptiestBut 23 = .ok (.invokevirtual 109, 3) := by decide +kernel
theorem dC_emptiestBut_26 : decode tp_bC_emptiestBut 26 = .ok (.ifCond .eq 23, 3) := by decide +kernel
theorem dC_emptiestBut_29 : decode tp_bC_emptiestBut 29 = .ok (.aload_n 0, 1) := by decide +kernel
theorem dC_emptiestBut_30 : decode tp_bC_emptiestBut 30 = .ok (.iload 4, 2) := by decide +kernel
theorem dC_emptiestBut_32 : decode tp_bC_emptiestBut 32 = .ok (.invokevirtual 97, 3) := by decide +kernel
theorem dC_emptiestBut_35 : decode tp_bC_emptiestBut 35 = .ok (.iload_n 3, 1) := by decide +kernel
theorem dC_emptiestBut_36 : decode tp_bC_emptiestBut 36 = .ok (.if_icmp .le 13, 3) := by decide +kernel
theorem dC_emptiestBut_39 : decode tp_bC_emptiestBut 39 = .ok (.iload 4, 2) := by decide +kernel
theorem dC_emptiestBut_41 : decode tp_bC_emptiestBut 41 = .ok (.istore_n 2, 1) := by decide +kernel
theorem dC_emptiestBut_42 : decode tp_bC_emptiestBut 42 = .ok (.aload_n 0, 1) := by decide +kernel
theorem dC_emptiestBut_43 : decode tp_bC_emptiestBut 43 = .ok (.iload 4, 2) := by decide +kernel
theorem dC_emptiestBut_45 : decode tp_bC_emptiestBut 45 = .ok (.invokevirtual 97, 3) := by decide +kernel
theorem dC_emptiestBut_48 : decode tp_bC_emptiestBut 48 = .ok (.istore_n 3, 1) := by decide +kernel
theorem dC_emptiestBut_49 : decode tp_bC_emptiestBut 49 = .ok (.iinc 4 1, 3) := by decide +kernel
theorem dC_emptiestBut_52 : decode tp_bC_emptiestBut 52 = .ok (.goto (-45), 3) := by decide +kernel
theorem dC_emptiestBut_55 : decode tp_bC_emptiestBut 55 = .ok (.iload_n 2, 1) := by decide +kernel
theorem dC_emptiestBut_56 : decode tp_bC_emptiestBut 56 = .ok (.ireturn, 1) := by decide +kernel
theorem dC_capacityWithout_0 : decode tp_bC_capacityWithout 0 = .ok (.iconst 0, 1) := by decide +kernel
theorem dC_capacityWithout_1 : decode tp_bC_capacityWithout 1 = .ok (.istore_n 2, 1) := by decide +kernel
theorem dC_capacityWithout_2 : decode tp_bC_capacityWithout 2 = .ok (.iconst 0, 1) := by decide +kernel
theorem dC_capacityWithout_3 : decode tp_bC_capacityWithout 3 = .ok (.istore_n 3, 1) := by decide +kernel
theorem dC_capacityWithout_4 : decode tp_bC_capacityWithout 4 = .ok (.iconst 0, 1) := by decide +kernel
theorem dC_capacityWithout_5 : decode tp_bC_capacityWithout 5 = .ok (.istore 4, 2) := by decide +kernel
theorem dC_capacityWithout_7 : decode tp_bC_capacityWithout 7 = .ok (.iload 4, 2) := by decide +kernel
theorem dC_capacityWithout_9 : decode tp_bC_capacityWithout 9 = .ok (.bipush 12, 2) := by decide +kernel
theorem dC_capacityWithout_11 : decode tp_bC_capacityWithout 11 = .ok (.if_icmp .ge 46, 3) := by decide +kernel
theorem dC_capacityWithout_14 : decode tp_bC_capacityWithout 14 = .ok (.iload 4, 2) := by decide +kernel
theorem dC_capacityWithout_16 : decode tp_bC_capacityWithout 16 = .ok (.iload_n 1, 1) := by decide +kernel
theorem dC_capacityWithout_17 : decode tp_bC_capacityWithout 17 = .ok (.if_icmp .eq 34, 3) := by decide +kernel
theorem dC_capacityWithout_20 : decode tp_bC_capacityWithout 20 = .ok (.aload_n 0, 1) := by decide +kernel
theorem dC_capacityWithout_21 : decode tp_bC_capacityWithout 21 = .ok (.iload 4, 2) := by decide +kernel
theorem dC_capacityWithout_23 : decode tp_bC_capacityWithout 23 = .ok (.invokevirtual 109, 3) := by decide +kernel
theorem dC_capacityWithout_26 : decode tp_bC_capacityWithout 26 = .ok (.ifCond .eq 25, 3) := by decide +kernel
theorem dC_capacityWithout_29 : decode tp_bC_capacityWithout 29 = .ok (.iload_n 2, 1) := by decide +kernel
theorem dC_capacityWithout_30 : decode tp_bC_capacityWithout 30 = .ok (.aload_n 0, 1) := by decide +kernel
theorem dC_capacityWithout_31 : decode tp_bC_capacityWithout 31 = .ok (.getfield 9, 3) := by decide +kernel
theorem dC_capacityWithout_34 : decode tp_bC_capacityWithout 34 = .ok (.iload 4, 2) := by decide +kernel
theorem dC_capacityWithout_36 : decode tp_bC_capacityWithout 36 = .ok (.iaload, 1) := by decide +kernel
theorem dC_capacityWithout_37 : decode tp_bC_capacityWithout 37 = .ok (.iadd, 1) := by decide +kernel
theorem dC_capacityWithout_38 : decode tp_bC_capacityWithout 38 = .ok (.istore_n 2, 1) := by decide +kernel
theorem dC_capacityWithout_39 : decode tp_bC_capacityWithout 39 = .ok (.iload_n 3, 1) := by decide +kernel
theorem dC_capacityWithout_40 : decode tp_bC_capacityWithout 40 = .ok (.aload_n 0, 1) := by decide +kernel
theorem dC_capacityWithout_41 : decode tp_bC_capacityWithout 41 = .ok (.getfield 9, 3) := by decide +kernel
theorem dC_capacityWithout_44 : decode tp_bC_capacityWithout 44 = .ok (.iload 4, 2) := by decide +kernel
theorem dC_capacityWithout_46 : decode tp_bC_capacityWithout 46 = .ok (.iaload, 1) := by decide +kernel
theorem dC_capacityWithout_47 : decode tp_bC_capacityWithout 47 = .ok (.invokestatic 112, 3) := by decide +kernel
theorem dC_capacityWithout_50 : decode tp_bC_capacityWithout 50 = .ok (.istore_n 3, 1) := by decide +kernel
theorem dC_capacityWithout_51 : decode tp_bC_capacityWithout 51 = .ok (.iinc 4 1, 3) := by decide +kernel
theorem dC_capacityWithout_54 : decode tp_bC_capacityWithout 54 = .ok (.goto (-47), 3) := by decide +kernel
theorem dC_capacityWithout_57 : decode tp_bC_capacityWithout 57 = .ok (.iload_n 2, 1) := by decide +kernel
theorem dC_capacityWithout_58 : decode tp_bC_capacityWithout 58 = .ok (.iconst 2, 1) := by decide +kernel
theorem dC_capacityWithout_59 : decode tp_bC_capacityWithout 59 = .ok (.idiv, 1) := by decide +kernel
theorem dC_capacityWithout_60 : decode tp_bC_capacityWithout 60 = .ok (.iload_n 2, 1) := by decide +kernel
theorem dC_capacityWithout_61 : decode tp_bC_capacityWithout 61 = .ok (.iload_n 3, 1) := by decide +kernel
theorem dC_capacityWithout_62 : decode tp_bC_capacityWithout 62 = .ok (.isub, 1) := by decide +kernel
theorem dC_capacityWithout_63 : decode tp_bC_capacityWithout 63 = .ok (.invokestatic 56, 3) := by decide +kernel
theorem dC_capacityWithout_66 : decode tp_bC_capacityWithout 66 = .ok (.ireturn, 1) := by decide +kernel
theorem dC_disksThere_0 : decode tp_bC_disksThere 0 = .ok (.iconst 0, 1) := by decide +kernel
theorem dC_disksThere_1 : decode tp_bC_disksThere 1 = .ok (.istore_n 1, 1) := by decide +kernel
theorem dC_disksThere_2 : decode tp_bC_disksThere 2 = .ok (.iconst 0, 1) := by decide +kernel
theorem dC_disksThere_3 : decode tp_bC_disksThere 3 = .ok (.istore_n 2, 1) := by decide +kernel
theorem dC_disksThere_4 : decode tp_bC_disksThere 4 = .ok (.iload_n 2, 1) := by decide +kernel
theorem dC_disksThere_5 : decode tp_bC_disksThere 5 = .ok (.bipush 12, 2) := by decide +kernel
theorem dC_disksThere_7 : decode tp_bC_disksThere 7 = .ok (.if_icmp .ge 20, 3) := by decide +kernel
theorem dC_disksThere_10 : decode tp_bC_disksThere 10 = .ok (.aload_n 0, 1) := by decide +kernel
theorem dC_disksThere_11 : decode tp_bC_disksThere 11 = .ok (.iload_n 2, 1) := by decide +kernel
theorem dC_disksThere_12 : decode tp_bC_disksThere 12 = .ok (.invokevirtual 39, 3) := by decide +kernel
end
section
theorem dC_disksThere_15 : decode tp_bC_disksThere 15 = .ok (.ifCond .eq 6, 3) := by decide +kernel
theorem dC_disksThere_18 : decode tp_bC_disksThere 18 = .ok (.iinc 1 1, 3) := by decide +kernel
theorem dC_disksThere_21 : decode tp_bC_disksThere 21 = .ok (.iinc 2 1, 3) := by decide +kernel
theorem dC_disksThere_24 : decode tp_bC_disksThere 24 = .ok (.goto (-20), 3) := by decide +kernel
theorem dC_disksThere_27 : decode tp_bC_disksThere 27 = .ok (.iload_n 1, 1) := by decide +kernel
theorem dC_disksThere_28 : decode tp_bC_disksThere 28 = .ok (.ireturn, 1) := by decide +kernel
theorem dC_copiesOnLeaving_0 : decode tp_bC_copiesOnLeaving 0 = .ok (.iconst 0, 1) := by decide +kernel
theorem dC_copiesOnLeaving_1 : decode tp_bC_copiesOnLeaving 1 = .ok (.istore_n 1, 1) := by decide +kernel
theorem dC_copiesOnLeaving_2 : decode tp_bC_copiesOnLeaving 2 = .ok (.iconst 0, 1) := by decide +kernel
theorem dC_copiesOnLeaving_3 : decode tp_bC_copiesOnLeaving 3 = .ok (.istore_n 2, 1) := by decide +kernel
theorem dC_copiesOnLeaving_4 : decode tp_bC_copiesOnLeaving 4 = .ok (.iload_n 2, 1) := by decide +kernel
theorem dC_copiesOnLeaving_5 : decode tp_bC_copiesOnLeaving 5 = .ok (.bipush 12, 2) := by decide +kernel
theorem dC_copiesOnLeaving_7 : decode tp_bC_copiesOnLeaving 7 = .ok (.if_icmp .ge 27, 3) := by decide +kernel
theorem dC_copiesOnLeaving_10 : decode tp_bC_copiesOnLeaving 10 = .ok (.aload_n 0, 1) := by decide +kernel
theorem dC_copiesOnLeaving_11 : decode tp_bC_copiesOnLeaving 11 = .ok (.getfield 16, 3) := by decide +kernel
theorem dC_copiesOnLeaving_14 : decode tp_bC_copiesOnLeaving 14 = .ok (.iload_n 2, 1) := by decide +kernel
theorem dC_copiesOnLeaving_15 : decode tp_bC_copiesOnLeaving 15 = .ok (.baload, 1) := by decide +kernel
theorem dC_copiesOnLeaving_16 : decode tp_bC_copiesOnLeaving 16 = .ok (.ifCond .eq 12, 3) := by decide +kernel
theorem dC_copiesOnLeaving_19 : decode tp_bC_copiesOnLeaving 19 = .ok (.iload_n 1, 1) := by decide +kernel
theorem dC_copiesOnLeaving_20 : decode tp_bC_copiesOnLeaving 20 = .ok (.aload_n 0, 1) := by decide +kernel
theorem dC_copiesOnLeaving_21 : decode tp_bC_copiesOnLeaving 21 = .ok (.getfield 13, 3) := by decide +kernel
theorem dC_copiesOnLeaving_24 : decode tp_bC_copiesOnLeaving 24 = .ok (.iload_n 2, 1) := by decide +kernel
theorem dC_copiesOnLeaving_25 : decode tp_bC_copiesOnLeaving 25 = .ok (.iaload, 1) := by decide +kernel
theorem dC_copiesOnLeaving_26 : decode tp_bC_copiesOnLeaving 26 = .ok (.iadd, 1) := by decide +kernel
theorem dC_copiesOnLeaving_27 : decode tp_bC_copiesOnLeaving 27 = .ok (.istore_n 1, 1) := by decide +kernel
theorem dC_copiesOnLeaving_28 : decode tp_bC_copiesOnLeaving 28 = .ok (.iinc 2 1, 3) := by decide +kernel
theorem dC_copiesOnLeaving_31 : decode tp_bC_copiesOnLeaving 31 = .ok (.goto (-27), 3) := by decide +kernel
theorem dC_copiesOnLeaving_34 : decode tp_bC_copiesOnLeaving 34 = .ok (.iload_n 1, 1) := by decide +kernel
theorem dC_copiesOnLeaving_35 : decode tp_bC_copiesOnLeaving 35 = .ok (.ireturn, 1) := by decide +kernel
theorem dC_leastChunkOn_0 : decode tp_bC_leastChunkOn 0 = .ok (.iconst 0, 1) := by decide +kernel
theorem dC_leastChunkOn_1 : decode tp_bC_leastChunkOn 1 = .ok (.istore_n 2, 1) := by decide +kernel
theorem dC_leastChunkOn_2 : decode tp_bC_leastChunkOn 2 = .ok (.iload_n 2, 1) := by decide +kernel
theorem dC_leastChunkOn_3 : decode tp_bC_leastChunkOn 3 = .ok (.sipush 400, 3) := by decide +kernel
theorem dC_leastChunkOn_6 : decode tp_bC_leastChunkOn 6 = .ok (.if_icmp .ge 20, 3) := by decide +kernel
theorem dC_leastChunkOn_9 : decode tp_bC_leastChunkOn 9 = .ok (.aload_n 0, 1) := by decide +kernel
theorem dC_leastChunkOn_10 : decode tp_bC_leastChunkOn 10 = .ok (.iload_n 2, 1) := by decide +kernel
theorem dC_leastChunkOn_11 : decode tp_bC_leastChunkOn 11 = .ok (.iload_n 1, 1) := by decide +kernel
theorem dC_leastChunkOn_12 : decode tp_bC_leastChunkOn 12 = .ok (.invokevirtual 73, 3) := by decide +kernel
theorem dC_leastChunkOn_15 : decode tp_bC_leastChunkOn 15 = .ok (.ifCond .eq 5, 3) := by decide +kernel
theorem dC_leastChunkOn_18 : decode tp_bC_leastChunkOn 18 = .ok (.iload_n 2, 1) := by decide +kernel
theorem dC_leastChunkOn_19 : decode tp_bC_leastChunkOn 19 = .ok (.ireturn, 1) := by decide +kernel
theorem dC_leastChunkOn_20 : decode tp_bC_leastChunkOn 20 = .ok (.iinc 2 1, 3) := by decide +kernel
theorem dC_leastChunkOn_23 : decode tp_bC_leastChunkOn 23 = .ok (.goto (-21), 3) := by decide +kernel
theorem dC_leastChunkOn_26 : decode tp_bC_leastChunkOn 26 = .ok (.iconst (-1), 1) := by decide +kernel
theorem dC_leastChunkOn_27 : decode tp_bC_leastChunkOn 27 = .ok (.ireturn, 1) := by decide +kernel
theorem dC_isChunk_0 : decode tp_bC_isChunk 0 = .ok (.iload_n 1, 1) := by decide +kernel
theorem dC_isChunk_1 : decode tp_bC_isChunk 1 = .ok (.ifCond .lt 23, 3) := by decide +kernel
theorem dC_isChunk_4 : decode tp_bC_isChunk 4 = .ok (.iload_n 1, 1) := by decide +kernel
theorem dC_isChunk_5 : decode tp_bC_isChunk 5 = .ok (.sipush 400, 3) := by decide +kernel
theorem dC_isChunk_8 : decode tp_bC_isChunk 8 = .ok (.if_icmp .ge 16, 3) := by decide +kernel
theorem dC_isChunk_11 : decode tp_bC_isChunk 11 = .ok (.aload_n 0, 1) := by decide +kernel
theorem dC_isChunk_12 : decode tp_bC_isChunk 12 = .ok (.getfield 20, 3) := by decide +kernel
theorem dC_isChunk_15 : decode tp_bC_isChunk 15 = .ok (.iload_n 1, 1) := by decide +kernel
theorem dC_isChunk_16 : decode tp_bC_isChunk 16 = .ok (.baload, 1) := by decide +kernel
theorem dC_isChunk_17 : decode tp_bC_isChunk 17 = .ok (.ifCond .eq 7, 3) := by decide +kernel
theorem dC_isChunk_20 : decode tp_bC_isChunk 20 = .ok (.iconst 1, 1) := by decide +kernel
theorem dC_isChunk_21 : decode tp_bC_isChunk 21 = .ok (.goto 4, 3) := by decide +kernel
theorem dC_isChunk_24 : decode tp_bC_isChunk 24 = .ok (.iconst 0, 1) := by decide +kernel
theorem dC_isChunk_25 : decode tp_bC_isChunk 25 = .ok (.ireturn, 1) := by decide +kernel
theorem dC_isOn_0 : decode tp_bC_isOn 0 = .ok (.aload_n 0, 1) := by decide +kernel
theorem dC_isOn_1 : decode tp_bC_isOn 1 = .ok (.getfield 23, 3) := by decide +kernel
theorem dC_isOn_4 : decode tp_bC_isOn 4 = .ok (.iload_n 1, 1) := by decide +kernel
theorem dC_isOn_5 : decode tp_bC_isOn 5 = .ok (.iaload, 1) := by decide +kernel
theorem dC_isOn_6 : decode tp_bC_isOn 6 = .ok (.iload_n 2, 1) := by decide +kernel
theorem dC_isOn_7 : decode tp_bC_isOn 7 = .ok (.if_icmp .eq 13, 3) := by decide +kernel
theorem dC_isOn_10 : decode tp_bC_isOn 10 = .ok (.aload_n 0, 1) := by decide +kernel
theorem dC_isOn_11 : decode tp_bC_isOn 11 = .ok (.getfield 26, 3) := by decide +kernel
theorem dC_isOn_14 : decode tp_bC_isOn 14 = .ok (.iload_n 1, 1) := by decide +kernel
theorem dC_isOn_15 : decode tp_bC_isOn 15 = .ok (.iaload, 1) := by decide +kernel
theorem dC_isOn_16 : decode tp_bC_isOn 16 = .ok (.iload_n 2, 1) := by decide +kernel
theorem dC_isOn_17 : decode tp_bC_isOn 17 = .ok (.if_icmp .ne 7, 3) := by decide +kernel
theorem dC_isOn_20 : decode tp_bC_isOn 20 = .ok (.iconst 1, 1) := by decide +kernel
theorem dC_isOn_21 : decode tp_bC_isOn 21 = .ok (.goto 4, 3) := by decide +kernel
theorem dC_isOn_24 : decode tp_bC_isOn 24 = .ok (.iconst 0, 1) := by decide +kernel
theorem dC_isOn_25 : decode tp_bC_isOn 25 = .ok (.ireturn, 1) := by decide +kernel
theorem dC_copiesOf_0 : decode tp_bC_copiesOf 0 = .ok (.aload_n 0, 1) := by decide +kernel
theorem dC_copiesOf_1 : decode tp_bC_copiesOf 1 = .ok (.getfield 23, 3) := by decide +kernel
theorem dC_copiesOf_4 : decode tp_bC_copiesOf 4 = .ok (.iload_n 1, 1) := by decide +kernel
theorem dC_copiesOf_5 : decode tp_bC_copiesOf 5 = .ok (.iaload, 1) := by decide +kernel
theorem dC_copiesOf_6 : decode tp_bC_copiesOf 6 = .ok (.iconst (-1), 1) := by decide +kernel
theorem dC_copiesOf_7 : decode tp_bC_copiesOf 7 = .ok (.if_icmp .ne 5, 3) := by decide +kernel
theorem dC_copiesOf_10 : decode tp_bC_copiesOf 10 = .ok (.iconst 0, 1) := by decide +kernel
theorem dC_copiesOf_11 : decode tp_bC_copiesOf 11 = .ok (.ireturn, 1) := by decide +kernel
theorem dC_copiesOf_12 : decode tp_bC_copiesOf 12 = .ok (.aload_n 0, 1) := by decide +kernel
theorem dC_copiesOf_13 : decode tp_bC_copiesOf 13 = .ok (.getfield 26, 3) := by decide +kernel
theorem dC_copiesOf_16 : decode tp_bC_copiesOf 16 = .ok (.iload_n 1, 1) := by decide +kernel
theorem dC_copiesOf_17 : decode tp_bC_copiesOf 17 = .ok (.iaload, 1) := by decide +kernel
theorem dC_copiesOf_18 : decode tp_bC_copiesOf 18 = .ok (.iconst (-1), 1) := by decide +kernel
theorem dC_copiesOf_19 : decode tp_bC_copiesOf 19 = .ok (.if_icmp .ne 7, 3) := by decide +kernel
theorem dC_copiesOf_22 : decode tp_bC_copiesOf 22 = .ok (.iconst 1, 1) := by decide +kernel
theorem dC_copiesOf_23 : decode tp_bC_copiesOf 23 = .ok (.goto 4, 3) := by decide +kernel
theorem dC_copiesOf_26 : decode tp_bC_copiesOf 26 = .ok (.iconst 2, 1) := by decide +kernel
theorem dC_copiesOf_27 : decode tp_bC_copiesOf 27 = .ok (.ireturn, 1) := by decide +kernel
theorem dC_isDegraded_0 : decode tp_bC_isDegraded 0 = .ok (.aload_n 0, 1) := by decide +kernel
theorem dC_isDegraded_1 : decode tp_bC_isDegraded 1 = .ok (.iload_n 1, 1) := by decide +kernel
theorem dC_isDegraded_2 : decode tp_bC_isDegraded 2 = .ok (.invokevirtual 65, 3) := by decide +kernel
theorem dC_isDegraded_5 : decode tp_bC_isDegraded 5 = .ok (.iconst 1, 1) := by decide +kernel
theorem dC_isDegraded_6 : decode tp_bC_isDegraded 6 = .ok (.if_icmp .ne 7, 3) := by decide +kernel
theorem dC_isDegraded_9 : decode tp_bC_isDegraded 9 = .ok (.iconst 1, 1) := by decide +kernel
theorem dC_isDegraded_10 : decode tp_bC_isDegraded 10 = .ok (.goto 4, 3) := by decide +kernel
theorem dC_isDegraded_13 : decode tp_bC_isDegraded 13 = .ok (.iconst 0, 1) := by decide +kernel
theorem dC_isDegraded_14 : decode tp_bC_isDegraded 14 = .ok (.ireturn, 1) := by decide +kernel
theorem dC_otherThan_0 : decode tp_bC_otherThan 0 = .ok (.aload_n 0, 1) := by decide +kernel
theorem dC_otherThan_1 : decode tp_bC_otherThan 1 = .ok (.getfield 23, 3) := by decide +kernel
theorem dC_otherThan_4 : decode tp_bC_otherThan 4 = .ok (.iload_n 1, 1) := by decide +kernel
theorem dC_otherThan_5 : decode tp_bC_otherThan 5 = .ok (.iaload, 1) := by decide +kernel
theorem dC_otherThan_6 : decode tp_bC_otherThan 6 = .ok (.iload_n 2, 1) := by decide +kernel
theorem dC_otherThan_7 : decode tp_bC_otherThan 7 = .ok (.if_icmp .ne 12, 3) := by decide +kernel
theorem dC_otherThan_10 : decode tp_bC_otherThan 10 = .ok (.aload_n 0, 1) := by decide +kernel
theorem dC_otherThan_11 : decode tp_bC_otherThan 11 = .ok (.getfield 26, 3) := by decide +kernel
theorem dC_otherThan_14 : decode tp_bC_otherThan 14 = .ok (.iload_n 1, 1) := by decide +kernel
theorem dC_otherThan_15 : decode tp_bC_otherThan 15 = .ok (.iaload, 1) := by decide +kernel
theorem dC_otherThan_16 : decode tp_bC_otherThan 16 = .ok (.goto 9, 3) := by decide +kernel
theorem dC_otherThan_19 : decode tp_bC_otherThan 19 = .ok (.aload_n 0, 1) := by decide +kernel
theorem dC_otherThan_20 : decode tp_bC_otherThan 20 = .ok (.getfield 23, 3) := by decide +kernel
theorem dC_otherThan_23 : decode tp_bC_otherThan 23 = .ok (.iload_n 1, 1) := by decide +kernel
theorem dC_otherThan_24 : decode tp_bC_otherThan 24 = .ok (.iaload, 1) := by decide +kernel
theorem dC_otherThan_25 : decode tp_bC_otherThan 25 = .ok (.ireturn, 1) := by decide +kernel
theorem dC_allChunks_0 : decode tp_bC_allChunks 0 = .ok (.iconst 0, 1) := by decide +kernel
theorem dC_allChunks_1 : decode tp_bC_allChunks 1 = .ok (.istore_n 1, 1) := by decide +kernel
theorem dC_allChunks_2 : decode tp_bC_allChunks 2 = .ok (.iconst 0, 1) := by decide +kernel
theorem dC_allChunks_3 : decode tp_bC_allChunks 3 = .ok (.istore_n 2, 1) := by decide +kernel
theorem dC_allChunks_4 : decode tp_bC_allChunks 4 = .ok (.iload_n 2, 1) := by decide +kernel
theorem dC_allChunks_5 : decode tp_bC_allChunks 5 = .ok (.sipush 400, 3) := by decide +kernel
theorem dC_allChunks_8 : decode tp_bC_allChunks 8 = .ok (.if_icmp .ge 21, 3) := by decide +kernel
theorem dC_allChunks_11 : decode tp_bC_allChunks 11 = .ok (.aload_n 0, 1) := by decide +kernel
theorem dC_allChunks_12 : decode tp_bC_allChunks 12 = .ok (.getfield 20, 3) := by decide +kernel
theorem dC_allChunks_15 : decode tp_bC_allChunks 15 = .ok (.iload_n 2, 1) := by decide +kernel
theorem dC_allChunks_16 : decode tp_bC_allChunks 16 = .ok (.baload, 1) := by decide +kernel
theorem dC_allChunks_17 : decode tp_bC_allChunks 17 = .ok (.ifCond .eq 6, 3) := by decide +kernel
theorem dC_allChunks_20 : decode tp_bC_allChunks 20 = .ok (.iinc 1 1, 3) := by decide +kernel
theorem dC_allChunks_23 : decode tp_bC_allChunks 23 = .ok (.iinc 2 1, 3) := by decide +kernel
theorem dC_allChunks_26 : decode tp_bC_allChunks 26 = .ok (.goto (-22), 3) := by decide +kernel
theorem dC_allChunks_29 : decode tp_bC_allChunks 29 = .ok (.iload_n 1, 1) := by decide +kernel
theorem dC_allChunks_30 : decode tp_bC_allChunks 30 = .ok (.ireturn, 1) := by decide +kernel
theorem dC_chunksWith_0 : decode tp_bC_chunksWith 0 = .ok (.iconst 0, 1) := by decide +kernel
theorem dC_chunksWith_1 : decode tp_bC_chunksWith 1 = .ok (.istore_n 2, 1) := by decide +kernel
theorem dC_chunksWith_2 : decode tp_bC_chunksWith 2 = .ok (.iconst 0, 1) := by decide +kernel
theorem dC_chunksWith_3 : decode tp_bC_chunksWith 3 = .ok (.istore_n 3, 1) := by decide +kernel
theorem dC_chunksWith_4 : decode tp_bC_chunksWith 4 = .ok (.iload_n 3, 1) := by decide +kernel
theorem dC_chunksWith_5 : decode tp_bC_chunksWith 5 = .ok (.sipush 400, 3) := by decide +kernel
theorem dC_chunksWith_8 : decode tp_bC_chunksWith 8 = .ok (.if_icmp .ge 30, 3) := by decide +kernel
theorem dC_chunksWith_11 : decode tp_bC_chunksWith 11 = .ok (.aload_n 0, 1) := by decide +kernel
theorem dC_chunksWith_12 : decode tp_bC_chunksWith 12 = .ok (.getfield 20, 3) := by decide +kernel
theorem dC_chunksWith_15 : decode tp_bC_chunksWith 15 = .ok (.iload_n 3, 1) := by decide +kernel
theorem dC_chunksWith_16 : decode tp_bC_chunksWith 16 = .ok (.baload, 1) := by decide +kernel
theorem dC_chunksWith_17 : decode tp_bC_chunksWith 17 = .ok (.ifCond .eq 15, 3) := by decide +kernel
theorem dC_chunksWith_20 : decode tp_bC_chunksWith 20 = .ok (.aload_n 0, 1) := by decide +kernel
theorem dC_chunksWith_21 : decode tp_bC_chunksWith 21 = .ok (.iload_n 3, 1) := by decide +kernel
theorem dC_chunksWith_22 : decode tp_bC_chunksWith 22 = .ok (.invokevirtual 65, 3) := by decide +kernel
theorem dC_chunksWith_25 : decode tp_bC_chunksWith 25 = .ok (.iload_n 1, 1) := by decide +kernel
theorem dC_chunksWith_26 : decode tp_bC_chunksWith 26 = .ok (.if_icmp .ne 6, 3) := by decide +kernel
theorem dC_chunksWith_29 : decode tp_bC_chunksWith 29 = .ok (.iinc 2 1, 3) := by decide +kernel
theorem dC_chunksWith_32 : decode tp_bC_chunksWith 32 = .ok (.iinc 3 1, 3) := by decide +kernel
theorem dC_chunksWith_35 : decode tp_bC_chunksWith 35 = .ok (.goto (-31), 3) := by decide +kernel
theorem dC_chunksWith_38 : decode tp_bC_chunksWith 38 = .ok (.iload_n 2, 1) := by decide +kernel
theorem dC_chunksWith_39 : decode tp_bC_chunksWith 39 = .ok (.ireturn, 1) := by decide +kernel
theorem dC_leastUnusedNumber_0 : decode tp_bC_leastUnusedNumber 0 = .ok (.iconst 0, 1) := by decide +kernel
theorem dC_leastUnusedNumber_1 : decode tp_bC_leastUnusedNumber 1 = .ok (.istore_n 1, 1) := by decide +kernel
theorem dC_leastUnusedNumber_2 : decode tp_bC_leastUnusedNumber 2 = .ok (.iload_n 1, 1) := by decide +kernel
theorem dC_leastUnusedNumber_3 : decode tp_bC_leastUnusedNumber 3 = .ok (.sipush 400, 3) := by decide +kernel
theorem dC_leastUnusedNumber_6 : decode tp_bC_leastUnusedNumber 6 = .ok (.if_icmp .ge 20, 3) := by decide +kernel
theorem dC_leastUnusedNumber_9 : decode tp_bC_leastUnusedNumber 9 = .ok (.aload_n 0, 1) := by decide +kernel
theorem dC_leastUnusedNumber_10 : decode tp_bC_leastUnusedNumber 10 = .ok (.getfield 20, 3) := by decide +kernel
theorem dC_leastUnusedNumber_13 : decode tp_bC_leastUnusedNumber 13 = .ok (.iload_n 1, 1) := by decide +kernel
theorem dC_leastUnusedNumber_14 : decode tp_bC_leastUnusedNumber 14 = .ok (.baload, 1) := by decide +kernel
theorem dC_leastUnusedNumber_15 : decode tp_bC_leastUnusedNumber 15 = .ok (.ifCond .ne 5, 3) := by decide +kernel
theorem dC_leastUnusedNumber_18 : decode tp_bC_leastUnusedNumber 18 = .ok (.iload_n 1, 1) := by decide +kernel
theorem dC_leastUnusedNumber_19 : decode tp_bC_leastUnusedNumber 19 = .ok (.ireturn, 1) := by decide +kernel
theorem dC_leastUnusedNumber_20 : decode tp_bC_leastUnusedNumber 20 = .ok (.iinc 1 1, 3) := by decide +kernel
theorem dC_leastUnusedNumber_23 : decode tp_bC_leastUnusedNumber 23 = .ok (.goto (-21), 3) := by decide +kernel
theorem dC_leastUnusedNumber_26 : decode tp_bC_leastUnusedNumber 26 = .ok (.iconst (-1), 1) := by decide +kernel
theorem dC_leastUnusedNumber_27 : decode tp_bC_leastUnusedNumber 27 = .ok (.ireturn, 1) := by decide +kernel
theorem dC_addCopy_0 : decode tp_bC_addCopy 0 = .ok (.aload_n 0, 1) := by decide +kernel
theorem dC_addCopy_1 : decode tp_bC_addCopy 1 = .ok (.getfield 23, 3) := by decide +kernel
theorem dC_addCopy_4 : decode tp_bC_addCopy 4 = .ok (.iload_n 1, 1) := by decide +kernel
theorem dC_addCopy_5 : decode tp_bC_addCopy 5 = .ok (.iaload, 1) := by decide +kernel
theorem dC_addCopy_6 : decode tp_bC_addCopy 6 = .ok (.istore_n 3, 1) := by decide +kernel
theorem dC_addCopy_7 : decode tp_bC_addCopy 7 = .ok (.iload_n 3, 1) := by decide +kernel
theorem dC_addCopy_8 : decode tp_bC_addCopy 8 = .ok (.iconst (-1), 1) := by decide +kernel
theorem dC_addCopy_9 : decode tp_bC_addCopy 9 = .ok (.if_icmp .ne 13, 3) := by decide +kernel
theorem dC_addCopy_12 : decode tp_bC_addCopy 12 = .ok (.aload_n 0, 1) := by decide +kernel
theorem dC_addCopy_13 : decode tp_bC_addCopy 13 = .ok (.getfield 23, 3) := by decide +kernel
theorem dC_addCopy_16 : decode tp_bC_addCopy 16 = .ok (.iload_n 1, 1) := by decide +kernel
theorem dC_addCopy_17 : decode tp_bC_addCopy 17 = .ok (.iload_n 2, 1) := by decide +kernel
theorem dC_addCopy_18 : decode tp_bC_addCopy 18 = .ok (.iastore, 1) := by decide +kernel
theorem dC_addCopy_19 : decode tp_bC_addCopy 19 = .ok (.goto 25, 3) := by decide +kernel
theorem dC_addCopy_22 : decode tp_bC_addCopy 22 = .ok (.aload_n 0, 1) := by decide +kernel
theorem dC_addCopy_23 : decode tp_bC_addCopy 23 = .ok (.getfield 23, 3) := by decide +kernel
theorem dC_addCopy_26 : decode tp_bC_addCopy 26 = .ok (.iload_n 1, 1) := by decide +kernel
theorem dC_addCopy_27 : decode tp_bC_addCopy 27 = .ok (.iload_n 3, 1) := by decide +kernel
theorem dC_addCopy_28 : decode tp_bC_addCopy 28 = .ok (.iload_n 2, 1) := by decide +kernel
theorem dC_addCopy_29 : decode tp_bC_addCopy 29 = .ok (.invokestatic 56, 3) := by decide +kernel
theorem dC_addCopy_32 : decode tp_bC_addCopy 32 = .ok (.iastore, 1) := by decide +kernel
theorem dC_addCopy_33 : decode tp_bC_addCopy 33 = .ok (.aload_n 0, 1) := by decide +kernel
theorem dC_addCopy_34 : decode tp_bC_addCopy 34 = .ok (.getfield 26, 3) := by decide +kernel
theorem dC_addCopy_37 : decode tp_bC_addCopy 37 = .ok (.iload_n 1, 1) := by decide +kernel
theorem dC_addCopy_38 : decode tp_bC_addCopy 38 = .ok (.iload_n 3, 1) := by decide +kernel
theorem dC_addCopy_39 : decode tp_bC_addCopy 39 = .ok (.iload_n 2, 1) := by decide +kernel
theorem dC_addCopy_40 : decode tp_bC_addCopy 40 = .ok (.invokestatic 112, 3) := by decide +kernel
theorem dC_addCopy_43 : decode tp_bC_addCopy 43 = .ok (.iastore, 1) := by decide +kernel
theorem dC_addCopy_44 : decode tp_bC_addCopy 44 = .ok (.aload_n 0, 1) := by decide +kernel
theorem dC_addCopy_45 : decode tp_bC_addCopy 45 = .ok (.getfield 13, 3) := by decide +kernel
theorem dC_addCopy_48 : decode tp_bC_addCopy 48 = .ok (.iload_n 2, 1) := by decide +kernel
theorem dC_addCopy_49 : decode tp_bC_addCopy 49 = .ok (.dup2, 1) := by decide +kernel
theorem dC_addCopy_50 : decode tp_bC_addCopy 50 = .ok (.iaload, 1) := by decide +kernel
theorem dC_addCopy_51 : decode tp_bC_addCopy 51 = .ok (.iconst 1, 1) := by decide +kernel
theorem dC_addCopy_52 : decode tp_bC_addCopy 52 = .ok (.iadd, 1) := by decide +kernel
theorem dC_addCopy_53 : decode tp_bC_addCopy 53 = .ok (.iastore, 1) := by decide +kernel
theorem dC_addCopy_54 : decode tp_bC_addCopy 54 = .ok (.return_, 1) := by decide +kernel
theorem dC_dropCopy_0 : decode tp_bC_dropCopy 0 = .ok (.aload_n 0, 1) := by decide +kernel
theorem dC_dropCopy_1 : decode tp_bC_dropCopy 1 = .ok (.getfield 23, 3) := by decide +kernel
theorem dC_dropCopy_4 : decode tp_bC_dropCopy 4 = .ok (.iload_n 1, 1) := by decide +kernel
theorem dC_dropCopy_5 : decode tp_bC_dropCopy 5 = .ok (.aload_n 0, 1) := by decide +kernel
theorem dC_dropCopy_6 : decode tp_bC_dropCopy 6 = .ok (.iload_n 1, 1) := by decide +kernel
theorem dC_dropCopy_7 : decode tp_bC_dropCopy 7 = .ok (.iload_n 2, 1) := by decide +kernel
theorem dC_dropCopy_8 : decode tp_bC_dropCopy 8 = .ok (.invokevirtual 115, 3) := by decide +kernel
theorem dC_dropCopy_11 : decode tp_bC_dropCopy 11 = .ok (.iastore, 1) := by decide +kernel
theorem dC_dropCopy_12 : decode tp_bC_dropCopy 12 = .ok (.aload_n 0, 1) := by decide +kernel
theorem dC_dropCopy_13 : decode tp_bC_dropCopy 13 = .ok (.getfield 26, 3) := by decide +kernel
theorem dC_dropCopy_16 : decode tp_bC_dropCopy 16 = .ok (.iload_n 1, 1) := by decide +kernel
theorem dC_dropCopy_17 : decode tp_bC_dropCopy 17 = .ok (.iconst (-1), 1) := by decide +kernel
theorem dC_dropCopy_18 : decode tp_bC_dropCopy 18 = .ok (.iastore, 1) := by decide +kernel
theorem dC_dropCopy_19 : decode tp_bC_dropCopy 19 = .ok (.aload_n 0, 1) := by decide +kernel
theorem dC_dropCopy_20 : decode tp_bC_dropCopy 20 = .ok (.getfield 13, 3) := by decide +kernel
theorem dC_dropCopy_23 : decode tp_bC_dropCopy 23 = .ok (.iload_n 2, 1) := by decide +kernel
theorem dC_dropCopy_24 : decode tp_bC_dropCopy 24 = .ok (.dup2, 1) := by decide +kernel
theorem dC_dropCopy_25 : decode tp_bC_dropCopy 25 = .ok (.iaload, 1) := by decide +kernel
theorem dC_dropCopy_26 : decode tp_bC_dropCopy 26 = .ok (.iconst 1, 1) := by decide +kernel
theorem dC_dropCopy_27 : decode tp_bC_dropCopy 27 = .ok (.isub, 1) := by decide +kernel
theorem dC_dropCopy_28 : decode tp_bC_dropCopy 28 = .ok (.iastore, 1) := by decide +kernel
theorem dC_dropCopy_29 : decode tp_bC_dropCopy 29 = .ok (.aload_n 0, 1) := by decide +kernel
theorem dC_dropCopy_30 : decode tp_bC_dropCopy 30 = .ok (.iload_n 2, 1) := by decide +kernel
theorem dC_dropCopy_31 : decode tp_bC_dropCopy 31 = .ok (.invokevirtual 90, 3) := by decide +kernel
theorem dC_dropCopy_34 : decode tp_bC_dropCopy 34 = .ok (.ifCond .eq 8, 3) := by decide +kernel
theorem dC_dropCopy_37 : decode tp_bC_dropCopy 37 = .ok (.aload_n 0, 1) := by decide +kernel
theorem dC_dropCopy_38 : decode tp_bC_dropCopy 38 = .ok (.iload_n 2, 1) := by decide +kernel
theorem dC_dropCopy_39 : decode tp_bC_dropCopy 39 = .ok (.invokevirtual 77, 3) := by decide +kernel
theorem dC_dropCopy_42 : decode tp_bC_dropCopy 42 = .ok (.return_, 1) := by decide +kernel
theorem dC_moveCopy_0 : decode tp_bC_moveCopy 0 = .ok (.aload_n 0, 1) := by decide +kernel
theorem dC_moveCopy_1 : decode tp_bC_moveCopy 1 = .ok (.iload_n 1, 1) := by decide +kernel
theorem dC_moveCopy_2 : decode tp_bC_moveCopy 2 = .ok (.iload_n 2, 1) := by decide +kernel
theorem dC_moveCopy_3 : decode tp_bC_moveCopy 3 = .ok (.invokevirtual 69, 3) := by decide +kernel
theorem dC_moveCopy_6 : decode tp_bC_moveCopy 6 = .ok (.aload_n 0, 1) := by decide +kernel
theorem dC_moveCopy_7 : decode tp_bC_moveCopy 7 = .ok (.iload_n 1, 1) := by decide +kernel
theorem dC_moveCopy_8 : decode tp_bC_moveCopy 8 = .ok (.iload_n 3, 1) := by decide +kernel
theorem dC_moveCopy_9 : decode tp_bC_moveCopy 9 = .ok (.invokevirtual 118, 3) := by decide +kernel
theorem dC_moveCopy_12 : decode tp_bC_moveCopy 12 = .ok (.return_, 1) := by decide +kernel
theorem dC_makeRoomBeside_0 : decode tp_bC_makeRoomBeside 0 = .ok (.iconst 0, 1) := by decide +kernel
theorem dC_makeRoomBeside_1 : decode tp_bC_makeRoomBeside 1 = .ok (.istore_n 2, 1) := by decide +kernel
theorem dC_makeRoomBeside_2 : decode tp_bC_makeRoomBeside 2 = .ok (.iload_n 2, 1) := by decide +kernel
theorem dC_makeRoomBeside_3 : decode tp_bC_makeRoomBeside 3 = .ok (.sipush 400, 3) := by decide +kernel
theorem dC_makeRoomBeside_6 : decode tp_bC_makeRoomBeside 6 = .ok (.if_icmp .ge 40, 3) := by decide +kernel
theorem dC_makeRoomBeside_9 : decode tp_bC_makeRoomBeside 9 = .ok (.aload_n 0, 1) := by decide +kernel
theorem dC_makeRoomBeside_10 : decode tp_bC_makeRoomBeside 10 = .ok (.iload_n 2, 1) := by decide +kernel
theorem dC_makeRoomBeside_11 : decode tp_bC_makeRoomBeside 11 = .ok (.iload_n 1, 1) := by decide +kernel
theorem dC_makeRoomBeside_12 : decode tp_bC_makeRoomBeside 12 = .ok (.invokevirtual 121, 3) := by decide +kernel
theorem dC_makeRoomBeside_15 : decode tp_bC_makeRoomBeside 15 = .ok (.istore_n 3, 1) := by decide +kernel
theorem dC_makeRoomBeside_16 : decode tp_bC_makeRoomBeside 16 = .ok (.iload_n 3, 1) := by decide +kernel
theorem dC_makeRoomBeside_17 : decode tp_bC_makeRoomBeside 17 = .ok (.iconst (-1), 1) := by decide +kernel
theorem dC_makeRoomBeside_18 : decode tp_bC_makeRoomBeside 18 = .ok (.if_icmp .eq 22, 3) := by decide +kernel
theorem dC_makeRoomBeside_21 : decode tp_bC_makeRoomBeside 21 = .ok (.aload_n 0, 1) := by decide +kernel
theorem dC_makeRoomBeside_22 : decode tp_bC_makeRoomBeside 22 = .ok (.iload_n 2, 1) := by decide +kernel
theorem dC_makeRoomBeside_23 : decode tp_bC_makeRoomBeside 23 = .ok (.iload_n 3, 1) := by decide +kernel
theorem dC_makeRoomBeside_24 : decode tp_bC_makeRoomBeside 24 = .ok (.iload_n 1, 1) := by decide +kernel
theorem dC_makeRoomBeside_25 : decode tp_bC_makeRoomBeside 25 = .ok (.invokevirtual 124, 3) := by decide +kernel
theorem dC_makeRoomBeside_28 : decode tp_bC_makeRoomBeside 28 = .ok (.aload_n 0, 1) := by decide +kernel
theorem dC_makeRoomBeside_29 : decode tp_bC_makeRoomBeside 29 = .ok (.dup, 1) := by decide +kernel
theorem dC_makeRoomBeside_30 : decode tp_bC_makeRoomBeside 30 = .ok (.getfield 32, 3) := by decide +kernel
theorem dC_makeRoomBeside_33 : decode tp_bC_makeRoomBeside 33 = .ok (.iconst 1, 1) := by decide +kernel
theorem dC_makeRoomBeside_34 : decode tp_bC_makeRoomBeside 34 = .ok (.iadd, 1) := by decide +kernel
theorem dC_makeRoomBeside_35 : decode tp_bC_makeRoomBeside 35 = .ok (.putfield 32, 3) := by decide +kernel
theorem dC_makeRoomBeside_38 : decode tp_bC_makeRoomBeside 38 = .ok (.iload_n 3, 1) := by decide +kernel
theorem dC_makeRoomBeside_39 : decode tp_bC_makeRoomBeside 39 = .ok (.ireturn, 1) := by decide +kernel
theorem dC_makeRoomBeside_40 : decode tp_bC_makeRoomBeside 40 = .ok (.iinc 2 1, 3) := by decide +kernel
theorem dC_makeRoomBeside_43 : decode tp_bC_makeRoomBeside 43 = .ok (.goto (-41), 3) := by decide +kernel
theorem dC_makeRoomBeside_46 : decode tp_bC_makeRoomBeside 46 = .ok (.iconst (-1), 1) := by decide +kernel
theorem dC_makeRoomBeside_47 : decode tp_bC_makeRoomBeside 47 = .ok (.ireturn, 1) := by decide +kernel
theorem dC_copyForRoom_0 : decode tp_bC_copyForRoom 0 = .ok (.aload_n 0, 1) := by decide +kernel
theorem dC_copyForRoom_1 : decode tp_bC_copyForRoom 1 = .ok (.iload_n 1, 1) := by decide +kernel
theorem dC_copyForRoom_2 : decode tp_bC_copyForRoom 2 = .ok (.iload_n 2, 1) := by decide +kernel
theorem dC_copyForRoom_3 : decode tp_bC_copyForRoom 3 = .ok (.invokevirtual 73, 3) := by decide +kernel
theorem dC_copyForRoom_6 : decode tp_bC_copyForRoom 6 = .ok (.ifCond .eq 5, 3) := by decide +kernel
theorem dC_copyForRoom_9 : decode tp_bC_copyForRoom 9 = .ok (.iconst (-1), 1) := by decide +kernel
theorem dC_copyForRoom_10 : decode tp_bC_copyForRoom 10 = .ok (.ireturn, 1) := by decide +kernel
theorem dC_copyForRoom_11 : decode tp_bC_copyForRoom 11 = .ok (.aload_n 0, 1) := by decide +kernel
theorem dC_copyForRoom_12 : decode tp_bC_copyForRoom 12 = .ok (.aload_n 0, 1) := by decide +kernel
theorem dC_copyForRoom_13 : decode tp_bC_copyForRoom 13 = .ok (.getfield 23, 3) := by decide +kernel
theorem dC_copyForRoom_16 : decode tp_bC_copyForRoom 16 = .ok (.iload_n 1, 1) := by decide +kernel
theorem dC_copyForRoom_17 : decode tp_bC_copyForRoom 17 = .ok (.iaload, 1) := by decide +kernel
theorem dC_copyForRoom_18 : decode tp_bC_copyForRoom 18 = .ok (.invokevirtual 109, 3) := by decide +kernel
theorem dC_copyForRoom_21 : decode tp_bC_copyForRoom 21 = .ok (.ifCond .eq 10, 3) := by decide +kernel
theorem dC_copyForRoom_24 : decode tp_bC_copyForRoom 24 = .ok (.aload_n 0, 1) := by decide +kernel
theorem dC_copyForRoom_25 : decode tp_bC_copyForRoom 25 = .ok (.getfield 23, 3) := by decide +kernel
theorem dC_copyForRoom_28 : decode tp_bC_copyForRoom 28 = .ok (.iload_n 1, 1) := by decide +kernel
theorem dC_copyForRoom_29 : decode tp_bC_copyForRoom 29 = .ok (.iaload, 1) := by decide +kernel
theorem dC_copyForRoom_30 : decode tp_bC_copyForRoom 30 = .ok (.ireturn, 1) := by decide +kernel
theorem dC_copyForRoom_31 : decode tp_bC_copyForRoom 31 = .ok (.aload_n 0, 1) := by decide +kernel
theorem dC_copyForRoom_32 : decode tp_bC_copyForRoom 32 = .ok (.aload_n 0, 1) := by decide +kernel
theorem dC_copyForRoom_33 : decode tp_bC_copyForRoom 33 = .ok (.getfield 26, 3) := by decide +kernel
end
section
theorem dC_copyForRoom_36 : decode tp_bC_copyForRoom 36 = .ok (.iload_n 1, 1) := by decide +kernel
theorem dC_copyForRoom_37 : decode tp_bC_copyForRoom 37 = .ok (.iaload, 1) := by decide +kernel
theorem dC_copyForRoom_38 : decode tp_bC_copyForRoom 38 = .ok (.invokevirtual 109, 3) := by decide +kernel
theorem dC_copyForRoom_41 : decode tp_bC_copyForRoom 41 = .ok (.ifCond .eq 12, 3) := by decide +kernel
theorem dC_copyForRoom_44 : decode tp_bC_copyForRoom 44 = .ok (.aload_n 0, 1) := by decide +kernel
theorem dC_copyForRoom_45 : decode tp_bC_copyForRoom 45 = .ok (.getfield 26, 3) := by decide +kernel
theorem dC_copyForRoom_48 : decode tp_bC_copyForRoom 48 = .ok (.iload_n 1, 1) := by decide +kernel
theorem dC_copyForRoom_49 : decode tp_bC_copyForRoom 49 = .ok (.iaload, 1) := by decide +kernel
theorem dC_copyForRoom_50 : decode tp_bC_copyForRoom 50 = .ok (.goto 4, 3) := by decide +kernel
theorem dC_copyForRoom_53 : decode tp_bC_copyForRoom 53 = .ok (.iconst (-1), 1) := by decide +kernel
theorem dC_copyForRoom_54 : decode tp_bC_copyForRoom 54 = .ok (.ireturn, 1) := by decide +kernel
theorem dC_newChunk_0 : decode tp_bC_newChunk 0 = .ok (.aload_n 0, 1) := by decide +kernel
theorem dC_newChunk_1 : decode tp_bC_newChunk 1 = .ok (.invokevirtual 128, 3) := by decide +kernel
theorem dC_newChunk_4 : decode tp_bC_newChunk 4 = .ok (.istore_n 1, 1) := by decide +kernel
theorem dC_newChunk_5 : decode tp_bC_newChunk 5 = .ok (.aload_n 0, 1) := by decide +kernel
theorem dC_newChunk_6 : decode tp_bC_newChunk 6 = .ok (.iconst (-1), 1) := by decide +kernel
theorem dC_newChunk_7 : decode tp_bC_newChunk 7 = .ok (.invokevirtual 131, 3) := by decide +kernel
theorem dC_newChunk_10 : decode tp_bC_newChunk 10 = .ok (.istore_n 2, 1) := by decide +kernel
theorem dC_newChunk_11 : decode tp_bC_newChunk 11 = .ok (.iload_n 1, 1) := by decide +kernel
theorem dC_newChunk_12 : decode tp_bC_newChunk 12 = .ok (.iconst (-1), 1) := by decide +kernel
theorem dC_newChunk_13 : decode tp_bC_newChunk 13 = .ok (.if_icmp .eq 8, 3) := by decide +kernel
theorem dC_newChunk_16 : decode tp_bC_newChunk 16 = .ok (.iload_n 2, 1) := by decide +kernel
theorem dC_newChunk_17 : decode tp_bC_newChunk 17 = .ok (.iconst (-1), 1) := by decide +kernel
theorem dC_newChunk_18 : decode tp_bC_newChunk 18 = .ok (.if_icmp .ne 5, 3) := by decide +kernel
theorem dC_newChunk_21 : decode tp_bC_newChunk 21 = .ok (.iconst (-1), 1) := by decide +kernel
theorem dC_newChunk_22 : decode tp_bC_newChunk 22 = .ok (.ireturn, 1) := by decide +kernel
theorem dC_newChunk_23 : decode tp_bC_newChunk 23 = .ok (.aload_n 0, 1) := by decide +kernel
theorem dC_newChunk_24 : decode tp_bC_newChunk 24 = .ok (.iload_n 2, 1) := by decide +kernel
theorem dC_newChunk_25 : decode tp_bC_newChunk 25 = .ok (.invokevirtual 131, 3) := by decide +kernel
theorem dC_newChunk_28 : decode tp_bC_newChunk 28 = .ok (.istore_n 3, 1) := by decide +kernel
theorem dC_newChunk_29 : decode tp_bC_newChunk 29 = .ok (.iload_n 3, 1) := by decide +kernel
theorem dC_newChunk_30 : decode tp_bC_newChunk 30 = .ok (.iconst (-1), 1) := by decide +kernel
theorem dC_newChunk_31 : decode tp_bC_newChunk 31 = .ok (.if_icmp .ne 18, 3) := by decide +kernel
theorem dC_newChunk_34 : decode tp_bC_newChunk 34 = .ok (.aload_n 0, 1) := by decide +kernel
theorem dC_newChunk_35 : decode tp_bC_newChunk 35 = .ok (.iload_n 2, 1) := by decide +kernel
theorem dC_newChunk_36 : decode tp_bC_newChunk 36 = .ok (.invokevirtual 97, 3) := by decide +kernel
theorem dC_newChunk_39 : decode tp_bC_newChunk 39 = .ok (.iconst 2, 1) := by decide +kernel
theorem dC_newChunk_40 : decode tp_bC_newChunk 40 = .ok (.if_icmp .lt 9, 3) := by decide +kernel
theorem dC_newChunk_43 : decode tp_bC_newChunk 43 = .ok (.aload_n 0, 1) := by decide +kernel
theorem dC_newChunk_44 : decode tp_bC_newChunk 44 = .ok (.iload_n 2, 1) := by decide +kernel
theorem dC_newChunk_45 : decode tp_bC_newChunk 45 = .ok (.invokevirtual 134, 3) := by decide +kernel
theorem dC_newChunk_48 : decode tp_bC_newChunk 48 = .ok (.istore_n 3, 1) := by decide +kernel
theorem dC_newChunk_49 : decode tp_bC_newChunk 49 = .ok (.iload_n 3, 1) := by decide +kernel
theorem dC_newChunk_50 : decode tp_bC_newChunk 50 = .ok (.iconst (-1), 1) := by decide +kernel
theorem dC_newChunk_51 : decode tp_bC_newChunk 51 = .ok (.if_icmp .ne 5, 3) := by decide +kernel
theorem dC_newChunk_54 : decode tp_bC_newChunk 54 = .ok (.iconst (-1), 1) := by decide +kernel
theorem dC_newChunk_55 : decode tp_bC_newChunk 55 = .ok (.ireturn, 1) := by decide +kernel
theorem dC_newChunk_56 : decode tp_bC_newChunk 56 = .ok (.aload_n 0, 1) := by decide +kernel
theorem dC_newChunk_57 : decode tp_bC_newChunk 57 = .ok (.getfield 20, 3) := by decide +kernel
theorem dC_newChunk_60 : decode tp_bC_newChunk 60 = .ok (.iload_n 1, 1) := by decide +kernel
theorem dC_newChunk_61 : decode tp_bC_newChunk 61 = .ok (.iconst 1, 1) := by decide +kernel
theorem dC_newChunk_62 : decode tp_bC_newChunk 62 = .ok (.bastore, 1) := by decide +kernel
theorem dC_newChunk_63 : decode tp_bC_newChunk 63 = .ok (.aload_n 0, 1) := by decide +kernel
theorem dC_newChunk_64 : decode tp_bC_newChunk 64 = .ok (.iload_n 1, 1) := by decide +kernel
theorem dC_newChunk_65 : decode tp_bC_newChunk 65 = .ok (.iload_n 2, 1) := by decide +kernel
theorem dC_newChunk_66 : decode tp_bC_newChunk 66 = .ok (.invokevirtual 118, 3) := by decide +kernel
theorem dC_newChunk_69 : decode tp_bC_newChunk 69 = .ok (.aload_n 0, 1) := by decide +kernel
theorem dC_newChunk_70 : decode tp_bC_newChunk 70 = .ok (.iload_n 1, 1) := by decide +kernel
theorem dC_newChunk_71 : decode tp_bC_newChunk 71 = .ok (.iload_n 3, 1) := by decide +kernel
theorem dC_newChunk_72 : decode tp_bC_newChunk 72 = .ok (.invokevirtual 118, 3) := by decide +kernel
theorem dC_newChunk_75 : decode tp_bC_newChunk 75 = .ok (.aload_n 0, 1) := by decide +kernel
theorem dC_newChunk_76 : decode tp_bC_newChunk 76 = .ok (.iload_n 1, 1) := by decide +kernel
theorem dC_newChunk_77 : decode tp_bC_newChunk 77 = .ok (.invokevirtual 137, 3) := by decide +kernel
theorem dC_newChunk_80 : decode tp_bC_newChunk 80 = .ok (.iload_n 1, 1) := by decide +kernel
theorem dC_newChunk_81 : decode tp_bC_newChunk 81 = .ok (.ireturn, 1) := by decide +kernel
theorem dC_clearWords_0 : decode tp_bC_clearWords 0 = .ok (.iconst 0, 1) := by decide +kernel
theorem dC_clearWords_1 : decode tp_bC_clearWords 1 = .ok (.istore_n 2, 1) := by decide +kernel
theorem dC_clearWords_2 : decode tp_bC_clearWords 2 = .ok (.iload_n 2, 1) := by decide +kernel
theorem dC_clearWords_3 : decode tp_bC_clearWords 3 = .ok (.iconst 4, 1) := by decide +kernel
theorem dC_clearWords_4 : decode tp_bC_clearWords 4 = .ok (.if_icmp .ge 20, 3) := by decide +kernel
theorem dC_clearWords_7 : decode tp_bC_clearWords 7 = .ok (.aload_n 0, 1) := by decide +kernel
theorem dC_clearWords_8 : decode tp_bC_clearWords 8 = .ok (.getfield 29, 3) := by decide +kernel
theorem dC_clearWords_11 : decode tp_bC_clearWords 11 = .ok (.iload_n 1, 1) := by decide +kernel
theorem dC_clearWords_12 : decode tp_bC_clearWords 12 = .ok (.iconst 4, 1) := by decide +kernel
theorem dC_clearWords_13 : decode tp_bC_clearWords 13 = .ok (.imul, 1) := by decide +kernel
theorem dC_clearWords_14 : decode tp_bC_clearWords 14 = .ok (.iload_n 2, 1) := by decide +kernel
theorem dC_clearWords_15 : decode tp_bC_clearWords 15 = .ok (.iadd, 1) := by decide +kernel
theorem dC_clearWords_16 : decode tp_bC_clearWords 16 = .ok (.iconst 0, 1) := by decide +kernel
theorem dC_clearWords_17 : decode tp_bC_clearWords 17 = .ok (.iastore, 1) := by decide +kernel
theorem dC_clearWords_18 : decode tp_bC_clearWords 18 = .ok (.iinc 2 1, 3) := by decide +kernel
theorem dC_clearWords_21 : decode tp_bC_clearWords 21 = .ok (.goto (-19), 3) := by decide +kernel
theorem dC_clearWords_24 : decode tp_bC_clearWords 24 = .ok (.return_, 1) := by decide +kernel
theorem dC_nextStep_0 : decode tp_bC_nextStep 0 = .ok (.aload_n 0, 1) := by decide +kernel
theorem dC_nextStep_1 : decode tp_bC_nextStep 1 = .ok (.invokevirtual 140, 3) := by decide +kernel
theorem dC_nextStep_4 : decode tp_bC_nextStep 4 = .ok (.ifCond .eq 5, 3) := by decide +kernel
theorem dC_nextStep_7 : decode tp_bC_nextStep 7 = .ok (.iconst 1, 1) := by decide +kernel
theorem dC_nextStep_8 : decode tp_bC_nextStep 8 = .ok (.ireturn, 1) := by decide +kernel
theorem dC_nextStep_9 : decode tp_bC_nextStep 9 = .ok (.aload_n 0, 1) := by decide +kernel
theorem dC_nextStep_10 : decode tp_bC_nextStep 10 = .ok (.invokevirtual 144, 3) := by decide +kernel
theorem dC_nextStep_13 : decode tp_bC_nextStep 13 = .ok (.ifCond .eq 5, 3) := by decide +kernel
theorem dC_nextStep_16 : decode tp_bC_nextStep 16 = .ok (.iconst 2, 1) := by decide +kernel
theorem dC_nextStep_17 : decode tp_bC_nextStep 17 = .ok (.ireturn, 1) := by decide +kernel
theorem dC_nextStep_18 : decode tp_bC_nextStep 18 = .ok (.aload_n 0, 1) := by decide +kernel
theorem dC_nextStep_19 : decode tp_bC_nextStep 19 = .ok (.invokevirtual 147, 3) := by decide +kernel
theorem dC_nextStep_22 : decode tp_bC_nextStep 22 = .ok (.ifCond .eq 5, 3) := by decide +kernel
theorem dC_nextStep_25 : decode tp_bC_nextStep 25 = .ok (.iconst 3, 1) := by decide +kernel
theorem dC_nextStep_26 : decode tp_bC_nextStep 26 = .ok (.ireturn, 1) := by decide +kernel
theorem dC_nextStep_27 : decode tp_bC_nextStep 27 = .ok (.aload_n 0, 1) := by decide +kernel
theorem dC_nextStep_28 : decode tp_bC_nextStep 28 = .ok (.invokevirtual 150, 3) := by decide +kernel
theorem dC_nextStep_31 : decode tp_bC_nextStep 31 = .ok (.ifCond .eq 7, 3) := by decide +kernel
theorem dC_nextStep_34 : decode tp_bC_nextStep 34 = .ok (.iconst 4, 1) := by decide +kernel
theorem dC_nextStep_35 : decode tp_bC_nextStep 35 = .ok (.goto 4, 3) := by decide +kernel
theorem dC_nextStep_38 : decode tp_bC_nextStep 38 = .ok (.iconst 0, 1) := by decide +kernel
theorem dC_nextStep_39 : decode tp_bC_nextStep 39 = .ok (.ireturn, 1) := by decide +kernel
theorem dC_mendOne_0 : decode tp_bC_mendOne 0 = .ok (.iconst 0, 1) := by decide +kernel
theorem dC_mendOne_1 : decode tp_bC_mendOne 1 = .ok (.istore_n 1, 1) := by decide +kernel
theorem dC_mendOne_2 : decode tp_bC_mendOne 2 = .ok (.iload_n 1, 1) := by decide +kernel
theorem dC_mendOne_3 : decode tp_bC_mendOne 3 = .ok (.sipush 400, 3) := by decide +kernel
theorem dC_mendOne_6 : decode tp_bC_mendOne 6 = .ok (.if_icmp .ge 45, 3) := by decide +kernel
theorem dC_mendOne_9 : decode tp_bC_mendOne 9 = .ok (.aload_n 0, 1) := by decide +kernel
theorem dC_mendOne_10 : decode tp_bC_mendOne 10 = .ok (.iload_n 1, 1) := by decide +kernel
theorem dC_mendOne_11 : decode tp_bC_mendOne 11 = .ok (.invokevirtual 153, 3) := by decide +kernel
theorem dC_mendOne_14 : decode tp_bC_mendOne 14 = .ok (.ifCond .eq 16, 3) := by decide +kernel
theorem dC_mendOne_17 : decode tp_bC_mendOne 17 = .ok (.aload_n 0, 1) := by decide +kernel
theorem dC_mendOne_18 : decode tp_bC_mendOne 18 = .ok (.aload_n 0, 1) := by decide +kernel
theorem dC_mendOne_19 : decode tp_bC_mendOne 19 = .ok (.getfield 23, 3) := by decide +kernel
theorem dC_mendOne_22 : decode tp_bC_mendOne 22 = .ok (.iload_n 1, 1) := by decide +kernel
theorem dC_mendOne_23 : decode tp_bC_mendOne 23 = .ok (.iaload, 1) := by decide +kernel
theorem dC_mendOne_24 : decode tp_bC_mendOne 24 = .ok (.invokevirtual 131, 3) := by decide +kernel
theorem dC_mendOne_27 : decode tp_bC_mendOne 27 = .ok (.goto 4, 3) := by decide +kernel
theorem dC_mendOne_30 : decode tp_bC_mendOne 30 = .ok (.iconst (-1), 1) := by decide +kernel
theorem dC_mendOne_31 : decode tp_bC_mendOne 31 = .ok (.istore_n 2, 1) := by decide +kernel
theorem dC_mendOne_32 : decode tp_bC_mendOne 32 = .ok (.iload_n 2, 1) := by decide +kernel
theorem dC_mendOne_33 : decode tp_bC_mendOne 33 = .ok (.iconst (-1), 1) := by decide +kernel
theorem dC_mendOne_34 : decode tp_bC_mendOne 34 = .ok (.if_icmp .eq 11, 3) := by decide +kernel
theorem dC_mendOne_37 : decode tp_bC_mendOne 37 = .ok (.aload_n 0, 1) := by decide +kernel
theorem dC_mendOne_38 : decode tp_bC_mendOne 38 = .ok (.iload_n 1, 1) := by decide +kernel
theorem dC_mendOne_39 : decode tp_bC_mendOne 39 = .ok (.iload_n 2, 1) := by decide +kernel
theorem dC_mendOne_40 : decode tp_bC_mendOne 40 = .ok (.invokevirtual 118, 3) := by decide +kernel
theorem dC_mendOne_43 : decode tp_bC_mendOne 43 = .ok (.iconst 1, 1) := by decide +kernel
theorem dC_mendOne_44 : decode tp_bC_mendOne 44 = .ok (.ireturn, 1) := by decide +kernel
theorem dC_mendOne_45 : decode tp_bC_mendOne 45 = .ok (.iinc 1 1, 3) := by decide +kernel
theorem dC_mendOne_48 : decode tp_bC_mendOne 48 = .ok (.goto (-46), 3) := by decide +kernel
theorem dC_mendOne_51 : decode tp_bC_mendOne 51 = .ok (.iconst 0, 1) := by decide +kernel
theorem dC_mendOne_52 : decode tp_bC_mendOne 52 = .ok (.ireturn, 1) := by decide +kernel
theorem dC_makeRoomToMend_0 : decode tp_bC_makeRoomToMend 0 = .ok (.iconst 0, 1) := by decide +kernel
theorem dC_makeRoomToMend_1 : decode tp_bC_makeRoomToMend 1 = .ok (.istore_n 1, 1) := by decide +kernel
theorem dC_makeRoomToMend_2 : decode tp_bC_makeRoomToMend 2 = .ok (.iload_n 1, 1) := by decide +kernel
theorem dC_makeRoomToMend_3 : decode tp_bC_makeRoomToMend 3 = .ok (.sipush 400, 3) := by decide +kernel
theorem dC_makeRoomToMend_6 : decode tp_bC_makeRoomToMend 6 = .ok (.if_icmp .ge 50, 3) := by decide +kernel
theorem dC_makeRoomToMend_9 : decode tp_bC_makeRoomToMend 9 = .ok (.aload_n 0, 1) := by decide +kernel
theorem dC_makeRoomToMend_10 : decode tp_bC_makeRoomToMend 10 = .ok (.iload_n 1, 1) := by decide +kernel
theorem dC_makeRoomToMend_11 : decode tp_bC_makeRoomToMend 11 = .ok (.invokevirtual 153, 3) := by decide +kernel
theorem dC_makeRoomToMend_14 : decode tp_bC_makeRoomToMend 14 = .ok (.ifCond .eq 36, 3) := by decide +kernel
theorem dC_makeRoomToMend_17 : decode tp_bC_makeRoomToMend 17 = .ok (.aload_n 0, 1) := by decide +kernel
theorem dC_makeRoomToMend_18 : decode tp_bC_makeRoomToMend 18 = .ok (.aload_n 0, 1) := by decide +kernel
theorem dC_makeRoomToMend_19 : decode tp_bC_makeRoomToMend 19 = .ok (.getfield 23, 3) := by decide +kernel
theorem dC_makeRoomToMend_22 : decode tp_bC_makeRoomToMend 22 = .ok (.iload_n 1, 1) := by decide +kernel
theorem dC_makeRoomToMend_23 : decode tp_bC_makeRoomToMend 23 = .ok (.iaload, 1) := by decide +kernel
theorem dC_makeRoomToMend_24 : decode tp_bC_makeRoomToMend 24 = .ok (.invokevirtual 156, 3) := by decide +kernel
theorem dC_makeRoomToMend_27 : decode tp_bC_makeRoomToMend 27 = .ok (.ifCond .eq 23, 3) := by decide +kernel
theorem dC_makeRoomToMend_30 : decode tp_bC_makeRoomToMend 30 = .ok (.aload_n 0, 1) := by decide +kernel
theorem dC_makeRoomToMend_31 : decode tp_bC_makeRoomToMend 31 = .ok (.aload_n 0, 1) := by decide +kernel
theorem dC_makeRoomToMend_32 : decode tp_bC_makeRoomToMend 32 = .ok (.getfield 23, 3) := by decide +kernel
theorem dC_makeRoomToMend_35 : decode tp_bC_makeRoomToMend 35 = .ok (.iload_n 1, 1) := by decide +kernel
theorem dC_makeRoomToMend_36 : decode tp_bC_makeRoomToMend 36 = .ok (.iaload, 1) := by decide +kernel
theorem dC_makeRoomToMend_37 : decode tp_bC_makeRoomToMend 37 = .ok (.invokevirtual 134, 3) := by decide +kernel
theorem dC_makeRoomToMend_40 : decode tp_bC_makeRoomToMend 40 = .ok (.iconst (-1), 1) := by decide +kernel
theorem dC_makeRoomToMend_41 : decode tp_bC_makeRoomToMend 41 = .ok (.if_icmp .eq 7, 3) := by decide +kernel
theorem dC_makeRoomToMend_44 : decode tp_bC_makeRoomToMend 44 = .ok (.iconst 1, 1) := by decide +kernel
theorem dC_makeRoomToMend_45 : decode tp_bC_makeRoomToMend 45 = .ok (.goto 4, 3) := by decide +kernel
theorem dC_makeRoomToMend_48 : decode tp_bC_makeRoomToMend 48 = .ok (.iconst 0, 1) := by decide +kernel
theorem dC_makeRoomToMend_49 : decode tp_bC_makeRoomToMend 49 = .ok (.ireturn, 1) := by decide +kernel
theorem dC_makeRoomToMend_50 : decode tp_bC_makeRoomToMend 50 = .ok (.iinc 1 1, 3) := by decide +kernel
theorem dC_makeRoomToMend_53 : decode tp_bC_makeRoomToMend 53 = .ok (.goto (-51), 3) := by decide +kernel
theorem dC_makeRoomToMend_56 : decode tp_bC_makeRoomToMend 56 = .ok (.iconst 0, 1) := by decide +kernel
theorem dC_makeRoomToMend_57 : decode tp_bC_makeRoomToMend 57 = .ok (.ireturn, 1) := by decide +kernel
theorem dC_moveOneOff_0 : decode tp_bC_moveOneOff 0 = .ok (.iconst 0, 1) := by decide +kernel
theorem dC_moveOneOff_1 : decode tp_bC_moveOneOff 1 = .ok (.istore_n 1, 1) := by decide +kernel
theorem dC_moveOneOff_2 : decode tp_bC_moveOneOff 2 = .ok (.iload_n 1, 1) := by decide +kernel
theorem dC_moveOneOff_3 : decode tp_bC_moveOneOff 3 = .ok (.bipush 12, 2) := by decide +kernel
theorem dC_moveOneOff_5 : decode tp_bC_moveOneOff 5 = .ok (.if_icmp .ge 28, 3) := by decide +kernel
theorem dC_moveOneOff_8 : decode tp_bC_moveOneOff 8 = .ok (.aload_n 0, 1) := by decide +kernel
theorem dC_moveOneOff_9 : decode tp_bC_moveOneOff 9 = .ok (.getfield 16, 3) := by decide +kernel
theorem dC_moveOneOff_12 : decode tp_bC_moveOneOff 12 = .ok (.iload_n 1, 1) := by decide +kernel
theorem dC_moveOneOff_13 : decode tp_bC_moveOneOff 13 = .ok (.baload, 1) := by decide +kernel
theorem dC_moveOneOff_14 : decode tp_bC_moveOneOff 14 = .ok (.ifCond .eq 13, 3) := by decide +kernel
theorem dC_moveOneOff_17 : decode tp_bC_moveOneOff 17 = .ok (.aload_n 0, 1) := by decide +kernel
theorem dC_moveOneOff_18 : decode tp_bC_moveOneOff 18 = .ok (.iload_n 1, 1) := by decide +kernel
theorem dC_moveOneOff_19 : decode tp_bC_moveOneOff 19 = .ok (.invokevirtual 159, 3) := by decide +kernel
theorem dC_moveOneOff_22 : decode tp_bC_moveOneOff 22 = .ok (.ifCond .eq 5, 3) := by decide +kernel
theorem dC_moveOneOff_25 : decode tp_bC_moveOneOff 25 = .ok (.iconst 1, 1) := by decide +kernel
theorem dC_moveOneOff_26 : decode tp_bC_moveOneOff 26 = .ok (.ireturn, 1) := by decide +kernel
theorem dC_moveOneOff_27 : decode tp_bC_moveOneOff 27 = .ok (.iinc 1 1, 3) := by decide +kernel
theorem dC_moveOneOff_30 : decode tp_bC_moveOneOff 30 = .ok (.goto (-28), 3) := by decide +kernel
theorem dC_moveOneOff_33 : decode tp_bC_moveOneOff 33 = .ok (.iconst 0, 1) := by decide +kernel
theorem dC_moveOneOff_34 : decode tp_bC_moveOneOff 34 = .ok (.ireturn, 1) := by decide +kernel
theorem dC_moveOneOffDisk_0 : decode tp_bC_moveOneOffDisk 0 = .ok (.iconst 0, 1) := by decide +kernel
theorem dC_moveOneOffDisk_1 : decode tp_bC_moveOneOffDisk 1 = .ok (.istore_n 2, 1) := by decide +kernel
theorem dC_moveOneOffDisk_2 : decode tp_bC_moveOneOffDisk 2 = .ok (.iload_n 2, 1) := by decide +kernel
theorem dC_moveOneOffDisk_3 : decode tp_bC_moveOneOffDisk 3 = .ok (.sipush 400, 3) := by decide +kernel
theorem dC_moveOneOffDisk_6 : decode tp_bC_moveOneOffDisk 6 = .ok (.if_icmp .ge 47, 3) := by decide +kernel
theorem dC_moveOneOffDisk_9 : decode tp_bC_moveOneOffDisk 9 = .ok (.aload_n 0, 1) := by decide +kernel
theorem dC_moveOneOffDisk_10 : decode tp_bC_moveOneOffDisk 10 = .ok (.iload_n 2, 1) := by decide +kernel
theorem dC_moveOneOffDisk_11 : decode tp_bC_moveOneOffDisk 11 = .ok (.iload_n 1, 1) := by decide +kernel
theorem dC_moveOneOffDisk_12 : decode tp_bC_moveOneOffDisk 12 = .ok (.invokevirtual 73, 3) := by decide +kernel
theorem dC_moveOneOffDisk_15 : decode tp_bC_moveOneOffDisk 15 = .ok (.ifCond .eq 16, 3) := by decide +kernel
theorem dC_moveOneOffDisk_18 : decode tp_bC_moveOneOffDisk 18 = .ok (.aload_n 0, 1) := by decide +kernel
theorem dC_moveOneOffDisk_19 : decode tp_bC_moveOneOffDisk 19 = .ok (.aload_n 0, 1) := by decide +kernel
theorem dC_moveOneOffDisk_20 : decode tp_bC_moveOneOffDisk 20 = .ok (.iload_n 2, 1) := by decide +kernel
theorem dC_moveOneOffDisk_21 : decode tp_bC_moveOneOffDisk 21 = .ok (.iload_n 1, 1) := by decide +kernel
theorem dC_moveOneOffDisk_22 : decode tp_bC_moveOneOffDisk 22 = .ok (.invokevirtual 115, 3) := by decide +kernel
theorem dC_moveOneOffDisk_25 : decode tp_bC_moveOneOffDisk 25 = .ok (.invokevirtual 131, 3) := by decide +kernel
theorem dC_moveOneOffDisk_28 : decode tp_bC_moveOneOffDisk 28 = .ok (.goto 4, 3) := by decide +kernel
theorem dC_moveOneOffDisk_31 : decode tp_bC_moveOneOffDisk 31 = .ok (.iconst (-1), 1) := by decide +kernel
theorem dC_moveOneOffDisk_32 : decode tp_bC_moveOneOffDisk 32 = .ok (.istore_n 3, 1) := by decide +kernel
theorem dC_moveOneOffDisk_33 : decode tp_bC_moveOneOffDisk 33 = .ok (.iload_n 3, 1) := by decide +kernel
theorem dC_moveOneOffDisk_34 : decode tp_bC_moveOneOffDisk 34 = .ok (.iconst (-1), 1) := by decide +kernel
theorem dC_moveOneOffDisk_35 : decode tp_bC_moveOneOffDisk 35 = .ok (.if_icmp .eq 12, 3) := by decide +kernel
theorem dC_moveOneOffDisk_38 : decode tp_bC_moveOneOffDisk 38 = .ok (.aload_n 0, 1) := by decide +kernel
theorem dC_moveOneOffDisk_39 : decode tp_bC_moveOneOffDisk 39 = .ok (.iload_n 2, 1) := by decide +kernel
theorem dC_moveOneOffDisk_40 : decode tp_bC_moveOneOffDisk 40 = .ok (.iload_n 1, 1) := by decide +kernel
theorem dC_moveOneOffDisk_41 : decode tp_bC_moveOneOffDisk 41 = .ok (.iload_n 3, 1) := by decide +kernel
theorem dC_moveOneOffDisk_42 : decode tp_bC_moveOneOffDisk 42 = .ok (.invokevirtual 124, 3) := by decide +kernel
theorem dC_moveOneOffDisk_45 : decode tp_bC_moveOneOffDisk 45 = .ok (.iconst 1, 1) := by decide +kernel
theorem dC_moveOneOffDisk_46 : decode tp_bC_moveOneOffDisk 46 = .ok (.ireturn, 1) := by decide +kernel
theorem dC_moveOneOffDisk_47 : decode tp_bC_moveOneOffDisk 47 = .ok (.iinc 2 1, 3) := by decide +kernel
theorem dC_moveOneOffDisk_50 : decode tp_bC_moveOneOffDisk 50 = .ok (.goto (-48), 3) := by decide +kernel
theorem dC_moveOneOffDisk_53 : decode tp_bC_moveOneOffDisk 53 = .ok (.iconst 0, 1) := by decide +kernel
theorem dC_moveOneOffDisk_54 : decode tp_bC_moveOneOffDisk 54 = .ok (.ireturn, 1) := by decide +kernel
theorem dC_makeRoomToMoveOff_0 : decode tp_bC_makeRoomToMoveOff 0 = .ok (.iconst 0, 1) := by decide +kernel
theorem dC_makeRoomToMoveOff_1 : decode tp_bC_makeRoomToMoveOff 1 = .ok (.istore_n 1, 1) := by decide +kernel
theorem dC_makeRoomToMoveOff_2 : decode tp_bC_makeRoomToMoveOff 2 = .ok (.iload_n 1, 1) := by decide +kernel
theorem dC_makeRoomToMoveOff_3 : decode tp_bC_makeRoomToMoveOff 3 = .ok (.bipush 12, 2) := by decide +kernel
theorem dC_makeRoomToMoveOff_5 : decode tp_bC_makeRoomToMoveOff 5 = .ok (.if_icmp .ge 48, 3) := by decide +kernel
theorem dC_makeRoomToMoveOff_8 : decode tp_bC_makeRoomToMoveOff 8 = .ok (.aload_n 0, 1) := by decide +kernel
theorem dC_makeRoomToMoveOff_9 : decode tp_bC_makeRoomToMoveOff 9 = .ok (.getfield 16, 3) := by decide +kernel
theorem dC_makeRoomToMoveOff_12 : decode tp_bC_makeRoomToMoveOff 12 = .ok (.iload_n 1, 1) := by decide +kernel
theorem dC_makeRoomToMoveOff_13 : decode tp_bC_makeRoomToMoveOff 13 = .ok (.baload, 1) := by decide +kernel
theorem dC_makeRoomToMoveOff_14 : decode tp_bC_makeRoomToMoveOff 14 = .ok (.ifCond .eq 11, 3) := by decide +kernel
theorem dC_makeRoomToMoveOff_17 : decode tp_bC_makeRoomToMoveOff 17 = .ok (.aload_n 0, 1) := by decide +kernel
theorem dC_makeRoomToMoveOff_18 : decode tp_bC_makeRoomToMoveOff 18 = .ok (.iload_n 1, 1) := by decide +kernel
theorem dC_makeRoomToMoveOff_19 : decode tp_bC_makeRoomToMoveOff 19 = .ok (.invokevirtual 162, 3) := by decide +kernel
theorem dC_makeRoomToMoveOff_22 : decode tp_bC_makeRoomToMoveOff 22 = .ok (.goto 4, 3) := by decide +kernel
theorem dC_makeRoomToMoveOff_25 : decode tp_bC_makeRoomToMoveOff 25 = .ok (.iconst (-1), 1) := by decide +kernel
theorem dC_makeRoomToMoveOff_26 : decode tp_bC_makeRoomToMoveOff 26 = .ok (.istore_n 2, 1) := by decide +kernel
theorem dC_makeRoomToMoveOff_27 : decode tp_bC_makeRoomToMoveOff 27 = .ok (.iload_n 2, 1) := by decide +kernel
theorem dC_makeRoomToMoveOff_28 : decode tp_bC_makeRoomToMoveOff 28 = .ok (.iconst (-1), 1) := by decide +kernel
theorem dC_makeRoomToMoveOff_29 : decode tp_bC_makeRoomToMoveOff 29 = .ok (.if_icmp .eq 18, 3) := by decide +kernel
theorem dC_makeRoomToMoveOff_32 : decode tp_bC_makeRoomToMoveOff 32 = .ok (.aload_n 0, 1) := by decide +kernel
theorem dC_makeRoomToMoveOff_33 : decode tp_bC_makeRoomToMoveOff 33 = .ok (.iload_n 2, 1) := by decide +kernel
theorem dC_makeRoomToMoveOff_34 : decode tp_bC_makeRoomToMoveOff 34 = .ok (.invokevirtual 134, 3) := by decide +kernel
theorem dC_makeRoomToMoveOff_37 : decode tp_bC_makeRoomToMoveOff 37 = .ok (.iconst (-1), 1) := by decide +kernel
theorem dC_makeRoomToMoveOff_38 : decode tp_bC_makeRoomToMoveOff 38 = .ok (.if_icmp .eq 7, 3) := by decide +kernel
theorem dC_makeRoomToMoveOff_41 : decode tp_bC_makeRoomToMoveOff 41 = .ok (.iconst 1, 1) := by decide +kernel
theorem dC_makeRoomToMoveOff_42 : decode tp_bC_makeRoomToMoveOff 42 = .ok (.goto 4, 3) := by decide +kernel
theorem dC_makeRoomToMoveOff_45 : decode tp_bC_makeRoomToMoveOff 45 = .ok (.iconst 0, 1) := by decide +kernel
theorem dC_makeRoomToMoveOff_46 : decode tp_bC_makeRoomToMoveOff 46 = .ok (.ireturn, 1) := by decide +kernel
theorem dC_makeRoomToMoveOff_47 : decode tp_bC_makeRoomToMoveOff 47 = .ok (.iinc 1 1, 3) := by decide +kernel
theorem dC_makeRoomToMoveOff_50 : decode tp_bC_makeRoomToMoveOff 50 = .ok (.goto (-48), 3) := by decide +kernel
theorem dC_makeRoomToMoveOff_53 : decode tp_bC_makeRoomToMoveOff 53 = .ok (.iconst 0, 1) := by decide +kernel
theorem dC_makeRoomToMoveOff_54 : decode tp_bC_makeRoomToMoveOff 54 = .ok (.ireturn, 1) := by decide +kernel
theorem dC_otherDiskWithRoom_0 : decode tp_bC_otherDiskWithRoom 0 = .ok (.iconst 0, 1) := by decide +kernel
theorem dC_otherDiskWithRoom_1 : decode tp_bC_otherDiskWithRoom 1 = .ok (.istore_n 2, 1) := by decide +kernel
theorem dC_otherDiskWithRoom_2 : decode tp_bC_otherDiskWithRoom 2 = .ok (.iload_n 2, 1) := by decide +kernel
theorem dC_otherDiskWithRoom_3 : decode tp_bC_otherDiskWithRoom 3 = .ok (.sipush 400, 3) := by decide +kernel
theorem dC_otherDiskWithRoom_6 : decode tp_bC_otherDiskWithRoom 6 = .ok (.if_icmp .ge 38, 3) := by decide +kernel
theorem dC_otherDiskWithRoom_9 : decode tp_bC_otherDiskWithRoom 9 = .ok (.aload_n 0, 1) := by decide +kernel
theorem dC_otherDiskWithRoom_10 : decode tp_bC_otherDiskWithRoom 10 = .ok (.iload_n 2, 1) := by decide +kernel
theorem dC_otherDiskWithRoom_11 : decode tp_bC_otherDiskWithRoom 11 = .ok (.iload_n 1, 1) := by decide +kernel
theorem dC_otherDiskWithRoom_12 : decode tp_bC_otherDiskWithRoom 12 = .ok (.invokevirtual 73, 3) := by decide +kernel
theorem dC_otherDiskWithRoom_15 : decode tp_bC_otherDiskWithRoom 15 = .ok (.ifCond .eq 23, 3) := by decide +kernel
theorem dC_otherDiskWithRoom_18 : decode tp_bC_otherDiskWithRoom 18 = .ok (.aload_n 0, 1) := by decide +kernel
theorem dC_otherDiskWithRoom_19 : decode tp_bC_otherDiskWithRoom 19 = .ok (.aload_n 0, 1) := by decide +kernel
theorem dC_otherDiskWithRoom_20 : decode tp_bC_otherDiskWithRoom 20 = .ok (.iload_n 2, 1) := by decide +kernel
theorem dC_otherDiskWithRoom_21 : decode tp_bC_otherDiskWithRoom 21 = .ok (.iload_n 1, 1) := by decide +kernel
theorem dC_otherDiskWithRoom_22 : decode tp_bC_otherDiskWithRoom 22 = .ok (.invokevirtual 115, 3) := by decide +kernel
theorem dC_otherDiskWithRoom_25 : decode tp_bC_otherDiskWithRoom 25 = .ok (.invokevirtual 156, 3) := by decide +kernel
theorem dC_otherDiskWithRoom_28 : decode tp_bC_otherDiskWithRoom 28 = .ok (.ifCond .eq 10, 3) := by decide +kernel
theorem dC_otherDiskWithRoom_31 : decode tp_bC_otherDiskWithRoom 31 = .ok (.aload_n 0, 1) := by decide +kernel
theorem dC_otherDiskWithRoom_32 : decode tp_bC_otherDiskWithRoom 32 = .ok (.iload_n 2, 1) := by decide +kernel
theorem dC_otherDiskWithRoom_33 : decode tp_bC_otherDiskWithRoom 33 = .ok (.iload_n 1, 1) := by decide +kernel
theorem dC_otherDiskWithRoom_34 : decode tp_bC_otherDiskWithRoom 34 = .ok (.invokevirtual 115, 3) := by decide +kernel
theorem dC_otherDiskWithRoom_37 : decode tp_bC_otherDiskWithRoom 37 = .ok (.ireturn, 1) := by decide +kernel
theorem dC_otherDiskWithRoom_38 : decode tp_bC_otherDiskWithRoom 38 = .ok (.iinc 2 1, 3) := by decide +kernel
theorem dC_otherDiskWithRoom_41 : decode tp_bC_otherDiskWithRoom 41 = .ok (.goto (-39), 3) := by decide +kernel
theorem dC_otherDiskWithRoom_44 : decode tp_bC_otherDiskWithRoom 44 = .ok (.iconst (-1), 1) := by decide +kernel
theorem dC_otherDiskWithRoom_45 : decode tp_bC_otherDiskWithRoom 45 = .ok (.ireturn, 1) := by decide +kernel
end
section
theorem dM_init_0 : decode tp_bM_init 0 = .ok (.aload_n 0, 1) := by decide +kernel
theorem dM_init_1 : decode tp_bM_init 1 = .ok (.invokespecial 1, 3) := by decide +kernel
theorem dM_init_4 : decode tp_bM_init 4 = .ok (.aload_n 0, 1) := by decide +kernel
theorem dM_init_5 : decode tp_bM_init 5 = .ok (.bipush 12, 2) := by decide +kernel
theorem dM_init_7 : decode tp_bM_init 7 = .ok (.newarray .int, 2) := by decide +kernel
theorem dM_init_9 : decode tp_bM_init 9 = .ok (.putfield 7, 3) := by decide +kernel
theorem dM_init_12 : decode tp_bM_init 12 = .ok (.aload_n 0, 1) := by decide +kernel
theorem dM_init_13 : decode tp_bM_init 13 = .ok (.bipush 12, 2) := by decide +kernel
theorem dM_init_15 : decode tp_bM_init 15 = .ok (.newarray .boolean, 2) := by decide +kernel
theorem dM_init_17 : decode tp_bM_init 17 = .ok (.putfield 13, 3) := by decide +kernel
theorem dM_init_20 : decode tp_bM_init 20 = .ok (.aload_n 0, 1) := by decide +kernel
theorem dM_init_21 : decode tp_bM_init 21 = .ok (.sipush 400, 3) := by decide +kernel
theorem dM_init_24 : decode tp_bM_init 24 = .ok (.newarray .boolean, 2) := by decide +kernel
theorem dM_init_26 : decode tp_bM_init 26 = .ok (.putfield 17, 3) := by decide +kernel
theorem dM_init_29 : decode tp_bM_init 29 = .ok (.aload_n 0, 1) := by decide +kernel
theorem dM_init_30 : decode tp_bM_init 30 = .ok (.sipush 400, 3) := by decide +kernel
theorem dM_init_33 : decode tp_bM_init 33 = .ok (.newarray .int, 2) := by decide +kernel
theorem dM_init_35 : decode tp_bM_init 35 = .ok (.putfield 20, 3) := by decide +kernel
theorem dM_init_38 : decode tp_bM_init 38 = .ok (.aload_n 0, 1) := by decide +kernel
theorem dM_init_39 : decode tp_bM_init 39 = .ok (.sipush 1600, 3) := by decide +kernel
theorem dM_init_42 : decode tp_bM_init 42 = .ok (.newarray .int, 2) := by decide +kernel
theorem dM_init_44 : decode tp_bM_init 44 = .ok (.putfield 23, 3) := by decide +kernel
theorem dM_init_47 : decode tp_bM_init 47 = .ok (.return_, 1) := by decide +kernel
theorem dM_thrown_0 : decode tp_bM_thrown 0 = .ok (.aload_n 0, 1) := by decide +kernel
theorem dM_thrown_1 : decode tp_bM_thrown 1 = .ok (.getfield 26, 3) := by decide +kernel
theorem dM_thrown_4 : decode tp_bM_thrown 4 = .ok (.ireturn, 1) := by decide +kernel
theorem dM_isDisk_0 : decode tp_bM_isDisk 0 = .ok (.iload_n 1, 1) := by decide +kernel
theorem dM_isDisk_1 : decode tp_bM_isDisk 1 = .ok (.ifCond .lt 22, 3) := by decide +kernel
theorem dM_isDisk_4 : decode tp_bM_isDisk 4 = .ok (.iload_n 1, 1) := by decide +kernel
theorem dM_isDisk_5 : decode tp_bM_isDisk 5 = .ok (.bipush 12, 2) := by decide +kernel
theorem dM_isDisk_7 : decode tp_bM_isDisk 7 = .ok (.if_icmp .ge 16, 3) := by decide +kernel
theorem dM_isDisk_10 : decode tp_bM_isDisk 10 = .ok (.aload_n 0, 1) := by decide +kernel
theorem dM_isDisk_11 : decode tp_bM_isDisk 11 = .ok (.getfield 7, 3) := by decide +kernel
theorem dM_isDisk_14 : decode tp_bM_isDisk 14 = .ok (.iload_n 1, 1) := by decide +kernel
theorem dM_isDisk_15 : decode tp_bM_isDisk 15 = .ok (.iaload, 1) := by decide +kernel
theorem dM_isDisk_16 : decode tp_bM_isDisk 16 = .ok (.ifCond .le 7, 3) := by decide +kernel
theorem dM_isDisk_19 : decode tp_bM_isDisk 19 = .ok (.iconst 1, 1) := by decide +kernel
theorem dM_isDisk_20 : decode tp_bM_isDisk 20 = .ok (.goto 4, 3) := by decide +kernel
theorem dM_isDisk_23 : decode tp_bM_isDisk 23 = .ok (.iconst 0, 1) := by decide +kernel
theorem dM_isDisk_24 : decode tp_bM_isDisk 24 = .ok (.ireturn, 1) := by decide +kernel
theorem dM_isChunk_0 : decode tp_bM_isChunk 0 = .ok (.iload_n 1, 1) := by decide +kernel
theorem dM_isChunk_1 : decode tp_bM_isChunk 1 = .ok (.ifCond .lt 23, 3) := by decide +kernel
theorem dM_isChunk_4 : decode tp_bM_isChunk 4 = .ok (.iload_n 1, 1) := by decide +kernel
theorem dM_isChunk_5 : decode tp_bM_isChunk 5 = .ok (.sipush 400, 3) := by decide +kernel
theorem dM_isChunk_8 : decode tp_bM_isChunk 8 = .ok (.if_icmp .ge 16, 3) := by decide +kernel
theorem dM_isChunk_11 : decode tp_bM_isChunk 11 = .ok (.aload_n 0, 1) := by decide +kernel
theorem dM_isChunk_12 : decode tp_bM_isChunk 12 = .ok (.getfield 17, 3) := by decide +kernel
theorem dM_isChunk_15 : decode tp_bM_isChunk 15 = .ok (.iload_n 1, 1) := by decide +kernel
theorem dM_isChunk_16 : decode tp_bM_isChunk 16 = .ok (.baload, 1) := by decide +kernel
theorem dM_isChunk_17 : decode tp_bM_isChunk 17 = .ok (.ifCond .eq 7, 3) := by decide +kernel
theorem dM_isChunk_20 : decode tp_bM_isChunk 20 = .ok (.iconst 1, 1) := by decide +kernel
theorem dM_isChunk_21 : decode tp_bM_isChunk 21 = .ok (.goto 4, 3) := by decide +kernel
theorem dM_isChunk_24 : decode tp_bM_isChunk 24 = .ok (.iconst 0, 1) := by decide +kernel
theorem dM_isChunk_25 : decode tp_bM_isChunk 25 = .ok (.ireturn, 1) := by decide +kernel
theorem dM_stays_0 : decode tp_bM_stays 0 = .ok (.aload_n 0, 1) := by decide +kernel
theorem dM_stays_1 : decode tp_bM_stays 1 = .ok (.getfield 7, 3) := by decide +kernel
theorem dM_stays_4 : decode tp_bM_stays 4 = .ok (.iload_n 1, 1) := by decide +kernel
theorem dM_stays_5 : decode tp_bM_stays 5 = .ok (.iaload, 1) := by decide +kernel
theorem dM_stays_6 : decode tp_bM_stays 6 = .ok (.ifCond .le 16, 3) := by decide +kernel
theorem dM_stays_9 : decode tp_bM_stays 9 = .ok (.aload_n 0, 1) := by decide +kernel
theorem dM_stays_10 : decode tp_bM_stays 10 = .ok (.getfield 13, 3) := by decide +kernel
theorem dM_stays_13 : decode tp_bM_stays 13 = .ok (.iload_n 1, 1) := by decide +kernel
theorem dM_stays_14 : decode tp_bM_stays 14 = .ok (.baload, 1) := by decide +kernel
theorem dM_stays_15 : decode tp_bM_stays 15 = .ok (.ifCond .ne 7, 3) := by decide +kernel
theorem dM_stays_18 : decode tp_bM_stays 18 = .ok (.iconst 1, 1) := by decide +kernel
theorem dM_stays_19 : decode tp_bM_stays 19 = .ok (.goto 4, 3) := by decide +kernel
theorem dM_stays_22 : decode tp_bM_stays 22 = .ok (.iconst 0, 1) := by decide +kernel
theorem dM_stays_23 : decode tp_bM_stays 23 = .ok (.ireturn, 1) := by decide +kernel
theorem dM_isOn_0 : decode tp_bM_isOn 0 = .ok (.aload_n 0, 1) := by decide +kernel
theorem dM_isOn_1 : decode tp_bM_isOn 1 = .ok (.getfield 17, 3) := by decide +kernel
theorem dM_isOn_4 : decode tp_bM_isOn 4 = .ok (.iload_n 1, 1) := by decide +kernel
theorem dM_isOn_5 : decode tp_bM_isOn 5 = .ok (.baload, 1) := by decide +kernel
theorem dM_isOn_6 : decode tp_bM_isOn 6 = .ok (.ifCond .eq 21, 3) := by decide +kernel
theorem dM_isOn_9 : decode tp_bM_isOn 9 = .ok (.aload_n 0, 1) := by decide +kernel
theorem dM_isOn_10 : decode tp_bM_isOn 10 = .ok (.getfield 20, 3) := by decide +kernel
theorem dM_isOn_13 : decode tp_bM_isOn 13 = .ok (.iload_n 1, 1) := by decide +kernel
theorem dM_isOn_14 : decode tp_bM_isOn 14 = .ok (.iaload, 1) := by decide +kernel
theorem dM_isOn_15 : decode tp_bM_isOn 15 = .ok (.iload_n 2, 1) := by decide +kernel
theorem dM_isOn_16 : decode tp_bM_isOn 16 = .ok (.ishr, 1) := by decide +kernel
theorem dM_isOn_17 : decode tp_bM_isOn 17 = .ok (.iconst 2, 1) := by decide +kernel
theorem dM_isOn_18 : decode tp_bM_isOn 18 = .ok (.irem, 1) := by decide +kernel
theorem dM_isOn_19 : decode tp_bM_isOn 19 = .ok (.iconst 1, 1) := by decide +kernel
theorem dM_isOn_20 : decode tp_bM_isOn 20 = .ok (.if_icmp .ne 7, 3) := by decide +kernel
theorem dM_isOn_23 : decode tp_bM_isOn 23 = .ok (.iconst 1, 1) := by decide +kernel
theorem dM_isOn_24 : decode tp_bM_isOn 24 = .ok (.goto 4, 3) := by decide +kernel
theorem dM_isOn_27 : decode tp_bM_isOn 27 = .ok (.iconst 0, 1) := by decide +kernel
theorem dM_isOn_28 : decode tp_bM_isOn 28 = .ok (.ireturn, 1) := by decide +kernel
theorem dM_used_0 : decode tp_bM_used 0 = .ok (.iconst 0, 1) := by decide +kernel
theorem dM_used_1 : decode tp_bM_used 1 = .ok (.istore_n 2, 1) := by decide +kernel
theorem dM_used_2 : decode tp_bM_used 2 = .ok (.iconst 0, 1) := by decide +kernel
theorem dM_used_3 : decode tp_bM_used 3 = .ok (.istore_n 3, 1) := by decide +kernel
theorem dM_used_4 : decode tp_bM_used 4 = .ok (.iload_n 3, 1) := by decide +kernel
theorem dM_used_5 : decode tp_bM_used 5 = .ok (.sipush 400, 3) := by decide +kernel
theorem dM_used_8 : decode tp_bM_used 8 = .ok (.if_icmp .ge 26, 3) := by decide +kernel
theorem dM_used_11 : decode tp_bM_used 11 = .ok (.aload_n 0, 1) := by decide +kernel
theorem dM_used_12 : decode tp_bM_used 12 = .ok (.iload_n 3, 1) := by decide +kernel
theorem dM_used_13 : decode tp_bM_used 13 = .ok (.iload_n 1, 1) := by decide +kernel
theorem dM_used_14 : decode tp_bM_used 14 = .ok (.invokevirtual 30, 3) := by decide +kernel
theorem dM_used_17 : decode tp_bM_used 17 = .ok (.ifCond .eq 9, 3) := by decide +kernel
theorem dM_used_20 : decode tp_bM_used 20 = .ok (.iload_n 2, 1) := by decide +kernel
theorem dM_used_21 : decode tp_bM_used 21 = .ok (.iconst 1, 1) := by decide +kernel
theorem dM_used_22 : decode tp_bM_used 22 = .ok (.iadd, 1) := by decide +kernel
theorem dM_used_23 : decode tp_bM_used 23 = .ok (.goto 4, 3) := by decide +kernel
theorem dM_used_26 : decode tp_bM_used 26 = .ok (.iload_n 2, 1) := by decide +kernel
theorem dM_used_27 : decode tp_bM_used 27 = .ok (.istore_n 2, 1) := by decide +kernel
theorem dM_used_28 : decode tp_bM_used 28 = .ok (.iinc 3 1, 3) := by decide +kernel
theorem dM_used_31 : decode tp_bM_used 31 = .ok (.goto (-27), 3) := by decide +kernel
theorem dM_used_34 : decode tp_bM_used 34 = .ok (.iload_n 2, 1) := by decide +kernel
theorem dM_used_35 : decode tp_bM_used 35 = .ok (.ireturn, 1) := by decide +kernel
theorem dM_freeOn_0 : decode tp_bM_freeOn 0 = .ok (.aload_n 0, 1) := by decide +kernel
theorem dM_freeOn_1 : decode tp_bM_freeOn 1 = .ok (.getfield 7, 3) := by decide +kernel
theorem dM_freeOn_4 : decode tp_bM_freeOn 4 = .ok (.iload_n 1, 1) := by decide +kernel
theorem dM_freeOn_5 : decode tp_bM_freeOn 5 = .ok (.iaload, 1) := by decide +kernel
theorem dM_freeOn_6 : decode tp_bM_freeOn 6 = .ok (.aload_n 0, 1) := by decide +kernel
theorem dM_freeOn_7 : decode tp_bM_freeOn 7 = .ok (.iload_n 1, 1) := by decide +kernel
theorem dM_freeOn_8 : decode tp_bM_freeOn 8 = .ok (.invokevirtual 34, 3) := by decide +kernel
theorem dM_freeOn_11 : decode tp_bM_freeOn 11 = .ok (.isub, 1) := by decide +kernel
theorem dM_freeOn_12 : decode tp_bM_freeOn 12 = .ok (.ireturn, 1) := by decide +kernel
theorem dM_howMany_0 : decode tp_bM_howMany 0 = .ok (.iconst 0, 1) := by decide +kernel
theorem dM_howMany_1 : decode tp_bM_howMany 1 = .ok (.istore_n 2, 1) := by decide +kernel
theorem dM_howMany_2 : decode tp_bM_howMany 2 = .ok (.iconst 0, 1) := by decide +kernel
theorem dM_howMany_3 : decode tp_bM_howMany 3 = .ok (.istore_n 3, 1) := by decide +kernel
theorem dM_howMany_4 : decode tp_bM_howMany 4 = .ok (.iload_n 3, 1) := by decide +kernel
theorem dM_howMany_5 : decode tp_bM_howMany 5 = .ok (.bipush 12, 2) := by decide +kernel
theorem dM_howMany_7 : decode tp_bM_howMany 7 = .ok (.if_icmp .ge 26, 3) := by decide +kernel
theorem dM_howMany_10 : decode tp_bM_howMany 10 = .ok (.aload_n 0, 1) := by decide +kernel
theorem dM_howMany_11 : decode tp_bM_howMany 11 = .ok (.iload_n 1, 1) := by decide +kernel
theorem dM_howMany_12 : decode tp_bM_howMany 12 = .ok (.iload_n 3, 1) := by decide +kernel
theorem dM_howMany_13 : decode tp_bM_howMany 13 = .ok (.invokevirtual 30, 3) := by decide +kernel
theorem dM_howMany_16 : decode tp_bM_howMany 16 = .ok (.ifCond .eq 9, 3) := by decide +kernel
theorem dM_howMany_19 : decode tp_bM_howMany 19 = .ok (.iload_n 2, 1) := by decide +kernel
theorem dM_howMany_20 : decode tp_bM_howMany 20 = .ok (.iconst 1, 1) := by decide +kernel
theorem dM_howMany_21 : decode tp_bM_howMany 21 = .ok (.iadd, 1) := by decide +kernel
theorem dM_howMany_22 : decode tp_bM_howMany 22 = .ok (.goto 4, 3) := by decide +kernel
theorem dM_howMany_25 : decode tp_bM_howMany 25 = .ok (.iload_n 2, 1) := by decide +kernel
theorem dM_howMany_26 : decode tp_bM_howMany 26 = .ok (.istore_n 2, 1) := by decide +kernel
theorem dM_howMany_27 : decode tp_bM_howMany 27 = .ok (.iinc 3 1, 3) := by decide +kernel
theorem dM_howMany_30 : decode tp_bM_howMany 30 = .ok (.goto (-26), 3) := by decide +kernel
theorem dM_howMany_33 : decode tp_bM_howMany 33 = .ok (.iload_n 2, 1) := by decide +kernel
theorem dM_howMany_34 : decode tp_bM_howMany 34 = .ok (.ireturn, 1) := by decide +kernel
theorem dM_emptiest_0 : decode tp_bM_emptiest 0 = .ok (.iconst (-1), 1) := by decide +kernel
theorem dM_emptiest_1 : decode tp_bM_emptiest 1 = .ok (.istore_n 3, 1) := by decide +kernel
theorem dM_emptiest_2 : decode tp_bM_emptiest 2 = .ok (.iconst 0, 1) := by decide +kernel
theorem dM_emptiest_3 : decode tp_bM_emptiest 3 = .ok (.istore 4, 2) := by decide +kernel
theorem dM_emptiest_5 : decode tp_bM_emptiest 5 = .ok (.iload 4, 2) := by decide +kernel
theorem dM_emptiest_7 : decode tp_bM_emptiest 7 = .ok (.bipush 12, 2) := by decide +kernel
theorem dM_emptiest_9 : decode tp_bM_emptiest 9 = .ok (.if_icmp .ge 84, 3) := by decide +kernel
theorem dM_emptiest_12 : decode tp_bM_emptiest 12 = .ok (.aload_n 0, 1) := by decide +kernel
theorem dM_emptiest_13 : decode tp_bM_emptiest 13 = .ok (.iload 4, 2) := by decide +kernel
theorem dM_emptiest_15 : decode tp_bM_emptiest 15 = .ok (.invokevirtual 38, 3) := by decide +kernel
theorem dM_emptiest_18 : decode tp_bM_emptiest 18 = .ok (.ifCond .eq 36, 3) := by decide +kernel
theorem dM_emptiest_21 : decode tp_bM_emptiest 21 = .ok (.iload 4, 2) := by decide +kernel
theorem dM_emptiest_23 : decode tp_bM_emptiest 23 = .ok (.iload_n 1, 1) := by decide +kernel
theorem dM_emptiest_24 : decode tp_bM_emptiest 24 = .ok (.if_icmp .eq 30, 3) := by decide +kernel
theorem dM_emptiest_27 : decode tp_bM_emptiest 27 = .ok (.aload_n 0, 1) := by decide +kernel
theorem dM_emptiest_28 : decode tp_bM_emptiest 28 = .ok (.iload 4, 2) := by decide +kernel
theorem dM_emptiest_30 : decode tp_bM_emptiest 30 = .ok (.invokevirtual 42, 3) := by decide +kernel
theorem dM_emptiest_33 : decode tp_bM_emptiest 33 = .ok (.ifCond .le 21, 3) := by decide +kernel
theorem dM_emptiest_36 : decode tp_bM_emptiest 36 = .ok (.iload_n 2, 1) := by decide +kernel
theorem dM_emptiest_37 : decode tp_bM_emptiest 37 = .ok (.ifCond .lt 13, 3) := by decide +kernel
theorem dM_emptiest_40 : decode tp_bM_emptiest 40 = .ok (.aload_n 0, 1) := by decide +kernel
theorem dM_emptiest_41 : decode tp_bM_emptiest 41 = .ok (.iload_n 2, 1) := by decide +kernel
theorem dM_emptiest_42 : decode tp_bM_emptiest 42 = .ok (.iload 4, 2) := by decide +kernel
theorem dM_emptiest_44 : decode tp_bM_emptiest 44 = .ok (.invokevirtual 30, 3) := by decide +kernel
theorem dM_emptiest_47 : decode tp_bM_emptiest 47 = .ok (.ifCond .ne 7, 3) := by decide +kernel
theorem dM_emptiest_50 : decode tp_bM_emptiest 50 = .ok (.iconst 1, 1) := by decide +kernel
theorem dM_emptiest_51 : decode tp_bM_emptiest 51 = .ok (.goto 4, 3) := by decide +kernel
theorem dM_emptiest_54 : decode tp_bM_emptiest 54 = .ok (.iconst 0, 1) := by decide +kernel
theorem dM_emptiest_55 : decode tp_bM_emptiest 55 = .ok (.istore 5, 2) := by decide +kernel
theorem dM_emptiest_57 : decode tp_bM_emptiest 57 = .ok (.iload 5, 2) := by decide +kernel
theorem dM_emptiest_59 : decode tp_bM_emptiest 59 = .ok (.ifCond .eq 26, 3) := by decide +kernel
theorem dM_emptiest_62 : decode tp_bM_emptiest 62 = .ok (.iload_n 3, 1) := by decide +kernel
theorem dM_emptiest_63 : decode tp_bM_emptiest 63 = .ok (.ifCond .lt 17, 3) := by decide +kernel
theorem dM_emptiest_66 : decode tp_bM_emptiest 66 = .ok (.aload_n 0, 1) := by decide +kernel
theorem dM_emptiest_67 : decode tp_bM_emptiest 67 = .ok (.iload 4, 2) := by decide +kernel
theorem dM_emptiest_69 : decode tp_bM_emptiest 69 = .ok (.invokevirtual 42, 3) := by decide +kernel
theorem dM_emptiest_72 : decode tp_bM_emptiest 72 = .ok (.aload_n 0, 1) := by decide +kernel
theorem dM_emptiest_73 : decode tp_bM_emptiest 73 = .ok (.iload_n 3, 1) := by decide +kernel
theorem dM_emptiest_74 : decode tp_bM_emptiest 74 = .ok (.invokevirtual 42, 3) := by decide +kernel
theorem dM_emptiest_77 : decode tp_bM_emptiest 77 = .ok (.if_icmp .le 8, 3) := by decide +kernel
theorem dM_emptiest_80 : decode tp_bM_emptiest 80 = .ok (.iload 4, 2) := by decide +kernel
theorem dM_emptiest_82 : decode tp_bM_emptiest 82 = .ok (.goto 4, 3) := by decide +kernel
theorem dM_emptiest_85 : decode tp_bM_emptiest 85 = .ok (.iload_n 3, 1) := by decide +kernel
theorem dM_emptiest_86 : decode tp_bM_emptiest 86 = .ok (.istore_n 3, 1) := by decide +kernel
theorem dM_emptiest_87 : decode tp_bM_emptiest 87 = .ok (.iinc 4 1, 3) := by decide +kernel
theorem dM_emptiest_90 : decode tp_bM_emptiest 90 = .ok (.goto (-85), 3) := by decide +kernel
theorem dM_emptiest_93 : decode tp_bM_emptiest 93 = .ok (.iload_n 3, 1) := by decide +kernel
theorem dM_emptiest_94 : decode tp_bM_emptiest 94 = .ok (.ireturn, 1) := by decide +kernel
theorem dM_capacity_0 : decode tp_bM_capacity 0 = .ok (.iconst 0, 1) := by decide +kernel
theorem dM_capacity_1 : decode tp_bM_capacity 1 = .ok (.istore_n 2, 1) := by decide +kernel
theorem dM_capacity_2 : decode tp_bM_capacity 2 = .ok (.iconst 0, 1) := by decide +kernel
theorem dM_capacity_3 : decode tp_bM_capacity 3 = .ok (.istore_n 3, 1) := by decide +kernel
theorem dM_capacity_4 : decode tp_bM_capacity 4 = .ok (.iconst 0, 1) := by decide +kernel
theorem dM_capacity_5 : decode tp_bM_capacity 5 = .ok (.istore 4, 2) := by decide +kernel
theorem dM_capacity_7 : decode tp_bM_capacity 7 = .ok (.iload 4, 2) := by decide +kernel
theorem dM_capacity_9 : decode tp_bM_capacity 9 = .ok (.bipush 12, 2) := by decide +kernel
theorem dM_capacity_11 : decode tp_bM_capacity 11 = .ok (.if_icmp .ge 57, 3) := by decide +kernel
theorem dM_capacity_14 : decode tp_bM_capacity 14 = .ok (.aload_n 0, 1) := by decide +kernel
theorem dM_capacity_15 : decode tp_bM_capacity 15 = .ok (.iload 4, 2) := by decide +kernel
theorem dM_capacity_17 : decode tp_bM_capacity 17 = .ok (.invokevirtual 38, 3) := by decide +kernel
theorem dM_capacity_20 : decode tp_bM_capacity 20 = .ok (.ifCond .eq 42, 3) := by decide +kernel
theorem dM_capacity_23 : decode tp_bM_capacity 23 = .ok (.iload 4, 2) := by decide +kernel
theorem dM_capacity_25 : decode tp_bM_capacity 25 = .ok (.iload_n 1, 1) := by decide +kernel
theorem dM_capacity_26 : decode tp_bM_capacity 26 = .ok (.if_icmp .eq 36, 3) := by decide +kernel
theorem dM_capacity_29 : decode tp_bM_capacity 29 = .ok (.iload_n 2, 1) := by decide +kernel
theorem dM_capacity_30 : decode tp_bM_capacity 30 = .ok (.aload_n 0, 1) := by decide +kernel
theorem dM_capacity_31 : decode tp_bM_capacity 31 = .ok (.getfield 7, 3) := by decide +kernel
theorem dM_capacity_34 : decode tp_bM_capacity 34 = .ok (.iload 4, 2) := by decide +kernel
theorem dM_capacity_36 : decode tp_bM_capacity 36 = .ok (.iaload, 1) := by decide +kernel
theorem dM_capacity_37 : decode tp_bM_capacity 37 = .ok (.iadd, 1) := by decide +kernel
theorem dM_capacity_38 : decode tp_bM_capacity 38 = .ok (.istore_n 2, 1) := by decide +kernel
theorem dM_capacity_39 : decode tp_bM_capacity 39 = .ok (.aload_n 0, 1) := by decide +kernel
theorem dM_capacity_40 : decode tp_bM_capacity 40 = .ok (.getfield 7, 3) := by decide +kernel
theorem dM_capacity_43 : decode tp_bM_capacity 43 = .ok (.iload 4, 2) := by decide +kernel
theorem dM_capacity_45 : decode tp_bM_capacity 45 = .ok (.iaload, 1) := by decide +kernel
theorem dM_capacity_46 : decode tp_bM_capacity 46 = .ok (.iload_n 3, 1) := by decide +kernel
theorem dM_capacity_47 : decode tp_bM_capacity 47 = .ok (.if_icmp .le 13, 3) := by decide +kernel
theorem dM_capacity_50 : decode tp_bM_capacity 50 = .ok (.aload_n 0, 1) := by decide +kernel
theorem dM_capacity_51 : decode tp_bM_capacity 51 = .ok (.getfield 7, 3) := by decide +kernel
theorem dM_capacity_54 : decode tp_bM_capacity 54 = .ok (.iload 4, 2) := by decide +kernel
theorem dM_capacity_56 : decode tp_bM_capacity 56 = .ok (.iaload, 1) := by decide +kernel
theorem dM_capacity_57 : decode tp_bM_capacity 57 = .ok (.goto 4, 3) := by decide +kernel
theorem dM_capacity_60 : decode tp_bM_capacity 60 = .ok (.iload_n 3, 1) := by decide +kernel
theorem dM_capacity_61 : decode tp_bM_capacity 61 = .ok (.istore_n 3, 1) := by decide +kernel
theorem dM_capacity_62 : decode tp_bM_capacity 62 = .ok (.iinc 4 1, 3) := by decide +kernel
theorem dM_capacity_65 : decode tp_bM_capacity 65 = .ok (.goto (-58), 3) := by decide +kernel
theorem dM_capacity_68 : decode tp_bM_capacity 68 = .ok (.iload_n 2, 1) := by decide +kernel
theorem dM_capacity_69 : decode tp_bM_capacity 69 = .ok (.iconst 2, 1) := by decide +kernel
theorem dM_capacity_70 : decode tp_bM_capacity 70 = .ok (.idiv, 1) := by decide +kernel
theorem dM_capacity_71 : decode tp_bM_capacity 71 = .ok (.iload_n 2, 1) := by decide +kernel
theorem dM_capacity_72 : decode tp_bM_capacity 72 = .ok (.iload_n 3, 1) := by decide +kernel
theorem dM_capacity_73 : decode tp_bM_capacity 73 = .ok (.isub, 1) := by decide +kernel
theorem dM_capacity_74 : decode tp_bM_capacity 74 = .ok (.if_icmp .ge 9, 3) := by decide +kernel
theorem dM_capacity_77 : decode tp_bM_capacity 77 = .ok (.iload_n 2, 1) := by decide +kernel
theorem dM_capacity_78 : decode tp_bM_capacity 78 = .ok (.iconst 2, 1) := by decide +kernel
theorem dM_capacity_79 : decode tp_bM_capacity 79 = .ok (.idiv, 1) := by decide +kernel
theorem dM_capacity_80 : decode tp_bM_capacity 80 = .ok (.goto 6, 3) := by decide +kernel
theorem dM_capacity_83 : decode tp_bM_capacity 83 = .ok (.iload_n 2, 1) := by decide +kernel
theorem dM_capacity_84 : decode tp_bM_capacity 84 = .ok (.iload_n 3, 1) := by decide +kernel
theorem dM_capacity_85 : decode tp_bM_capacity 85 = .ok (.isub, 1) := by decide +kernel
theorem dM_capacity_86 : decode tp_bM_capacity 86 = .ok (.ireturn, 1) := by decide +kernel
theorem dM_countWith_0 : decode tp_bM_countWith 0 = .ok (.iconst 0, 1) := by decide +kernel
theorem dM_countWith_1 : decode tp_bM_countWith 1 = .ok (.istore_n 2, 1) := by decide +kernel
theorem dM_countWith_2 : decode tp_bM_countWith 2 = .ok (.iconst 0, 1) := by decide +kernel
theorem dM_countWith_3 : decode tp_bM_countWith 3 = .ok (.istore_n 3, 1) := by decide +kernel
theorem dM_countWith_4 : decode tp_bM_countWith 4 = .ok (.iload_n 3, 1) := by decide +kernel
theorem dM_countWith_5 : decode tp_bM_countWith 5 = .ok (.sipush 400, 3) := by decide +kernel
theorem dM_countWith_8 : decode tp_bM_countWith 8 = .ok (.if_icmp .ge 35, 3) := by decide +kernel
theorem dM_countWith_11 : decode tp_bM_countWith 11 = .ok (.aload_n 0, 1) := by decide +kernel
theorem dM_countWith_12 : decode tp_bM_countWith 12 = .ok (.getfield 17, 3) := by decide +kernel
theorem dM_countWith_15 : decode tp_bM_countWith 15 = .ok (.iload_n 3, 1) := by decide +kernel
theorem dM_countWith_16 : decode tp_bM_countWith 16 = .ok (.baload, 1) := by decide +kernel
theorem dM_countWith_17 : decode tp_bM_countWith 17 = .ok (.ifCond .eq 18, 3) := by decide +kernel
theorem dM_countWith_20 : decode tp_bM_countWith 20 = .ok (.aload_n 0, 1) := by decide +kernel
theorem dM_countWith_21 : decode tp_bM_countWith 21 = .ok (.iload_n 3, 1) := by decide +kernel
theorem dM_countWith_22 : decode tp_bM_countWith 22 = .ok (.invokevirtual 45, 3) := by decide +kernel
theorem dM_countWith_25 : decode tp_bM_countWith 25 = .ok (.iload_n 1, 1) := by decide +kernel
theorem dM_countWith_26 : decode tp_bM_countWith 26 = .ok (.if_icmp .ne 9, 3) := by decide +kernel
theorem dM_countWith_29 : decode tp_bM_countWith 29 = .ok (.iload_n 2, 1) := by decide +kernel
theorem dM_countWith_30 : decode tp_bM_countWith 30 = .ok (.iconst 1, 1) := by decide +kernel
theorem dM_countWith_31 : decode tp_bM_countWith 31 = .ok (.iadd, 1) := by decide +kernel
theorem dM_countWith_32 : decode tp_bM_countWith 32 = .ok (.goto 4, 3) := by decide +kernel
theorem dM_countWith_35 : decode tp_bM_countWith 35 = .ok (.iload_n 2, 1) := by decide +kernel
theorem dM_countWith_36 : decode tp_bM_countWith 36 = .ok (.istore_n 2, 1) := by decide +kernel
theorem dM_countWith_37 : decode tp_bM_countWith 37 = .ok (.iinc 3 1, 3) := by decide +kernel
theorem dM_countWith_40 : decode tp_bM_countWith 40 = .ok (.goto (-36), 3) := by decide +kernel
theorem dM_countWith_43 : decode tp_bM_countWith 43 = .ok (.iload_n 2, 1) := by decide +kernel
theorem dM_countWith_44 : decode tp_bM_countWith 44 = .ok (.ireturn, 1) := by decide +kernel
theorem dM_chunkCount_0 : decode tp_bM_chunkCount 0 = .ok (.aload_n 0, 1) := by decide +kernel
theorem dM_chunkCount_1 : decode tp_bM_chunkCount 1 = .ok (.iconst 0, 1) := by decide +kernel
theorem dM_chunkCount_2 : decode tp_bM_chunkCount 2 = .ok (.invokevirtual 48, 3) := by decide +kernel
theorem dM_chunkCount_5 : decode tp_bM_chunkCount 5 = .ok (.aload_n 0, 1) := by decide +kernel
theorem dM_chunkCount_6 : decode tp_bM_chunkCount 6 = .ok (.iconst 1, 1) := by decide +kernel
theorem dM_chunkCount_7 : decode tp_bM_chunkCount 7 = .ok (.invokevirtual 48, 3) := by decide +kernel
theorem dM_chunkCount_10 : decode tp_bM_chunkCount 10 = .ok (.iadd, 1) := by decide +kernel
theorem dM_chunkCount_11 : decode tp_bM_chunkCount 11 = .ok (.aload_n 0, 1) := by decide +kernel
theorem dM_chunkCount_12 : decode tp_bM_chunkCount 12 = .ok (.iconst 2, 1) := by decide +kernel
theorem dM_chunkCount_13 : decode tp_bM_chunkCount 13 = .ok (.invokevirtual 48, 3) := by decide +kernel
theorem dM_chunkCount_16 : decode tp_bM_chunkCount 16 = .ok (.iadd, 1) := by decide +kernel
theorem dM_chunkCount_17 : decode tp_bM_chunkCount 17 = .ok (.ireturn, 1) := by decide +kernel
theorem dM_tidy_0 : decode tp_bM_tidy 0 = .ok (.iconst 0, 1) := by decide +kernel
theorem dM_tidy_1 : decode tp_bM_tidy 1 = .ok (.istore_n 1, 1) := by decide +kernel
theorem dM_tidy_2 : decode tp_bM_tidy 2 = .ok (.iload_n 1, 1) := by decide +kernel
theorem dM_tidy_3 : decode tp_bM_tidy 3 = .ok (.bipush 12, 2) := by decide +kernel
theorem dM_tidy_5 : decode tp_bM_tidy 5 = .ok (.if_icmp .ge 42, 3) := by decide +kernel
theorem dM_tidy_8 : decode tp_bM_tidy 8 = .ok (.aload_n 0, 1) := by decide +kernel
theorem dM_tidy_9 : decode tp_bM_tidy 9 = .ok (.getfield 7, 3) := by decide +kernel
theorem dM_tidy_12 : decode tp_bM_tidy 12 = .ok (.iload_n 1, 1) := by decide +kernel
theorem dM_tidy_13 : decode tp_bM_tidy 13 = .ok (.iaload, 1) := by decide +kernel
theorem dM_tidy_14 : decode tp_bM_tidy 14 = .ok (.ifCond .le 27, 3) := by decide +kernel
theorem dM_tidy_17 : decode tp_bM_tidy 17 = .ok (.aload_n 0, 1) := by decide +kernel
theorem dM_tidy_18 : decode tp_bM_tidy 18 = .ok (.getfield 13, 3) := by decide +kernel
theorem dM_tidy_21 : decode tp_bM_tidy 21 = .ok (.iload_n 1, 1) := by decide +kernel
theorem dM_tidy_22 : decode tp_bM_tidy 22 = .ok (.baload, 1) := by decide +kernel
theorem dM_tidy_23 : decode tp_bM_tidy 23 = .ok (.ifCond .eq 18, 3) := by decide +kernel
theorem dM_tidy_26 : decode tp_bM_tidy 26 = .ok (.aload_n 0, 1) := by decide +kernel
theorem dM_tidy_27 : decode tp_bM_tidy 27 = .ok (.iload_n 1, 1) := by decide +kernel
theorem dM_tidy_28 : decode tp_bM_tidy 28 = .ok (.invokevirtual 34, 3) := by decide +kernel
theorem dM_tidy_31 : decode tp_bM_tidy 31 = .ok (.ifCond .ne 10, 3) := by decide +kernel
theorem dM_tidy_34 : decode tp_bM_tidy 34 = .ok (.aload_n 0, 1) := by decide +kernel
end
section
theorem dM_tidy_35 : decode tp_bM_tidy 35 = .ok (.getfield 7, 3) := by decide +kernel
theorem dM_tidy_38 : decode tp_bM_tidy 38 = .ok (.iload_n 1, 1) := by decide +kernel
theorem dM_tidy_39 : decode tp_bM_tidy 39 = .ok (.iconst 0, 1) := by decide +kernel
theorem dM_tidy_40 : decode tp_bM_tidy 40 = .ok (.iastore, 1) := by decide +kernel
theorem dM_tidy_41 : decode tp_bM_tidy 41 = .ok (.iinc 1 1, 3) := by decide +kernel
theorem dM_tidy_44 : decode tp_bM_tidy 44 = .ok (.goto (-42), 3) := by decide +kernel
theorem dM_tidy_47 : decode tp_bM_tidy 47 = .ok (.return_, 1) := by decide +kernel
theorem dM_makeRoom_0 : decode tp_bM_makeRoom 0 = .ok (.iconst 0, 1) := by decide +kernel
theorem dM_makeRoom_1 : decode tp_bM_makeRoom 1 = .ok (.istore_n 2, 1) := by decide +kernel
theorem dM_makeRoom_2 : decode tp_bM_makeRoom 2 = .ok (.iload_n 2, 1) := by decide +kernel
theorem dM_makeRoom_3 : decode tp_bM_makeRoom 3 = .ok (.sipush 400, 3) := by decide +kernel
theorem dM_makeRoom_6 : decode tp_bM_makeRoom 6 = .ok (.if_icmp .ge 90, 3) := by decide +kernel
theorem dM_makeRoom_9 : decode tp_bM_makeRoom 9 = .ok (.aload_n 0, 1) := by decide +kernel
theorem dM_makeRoom_10 : decode tp_bM_makeRoom 10 = .ok (.getfield 17, 3) := by decide +kernel
theorem dM_makeRoom_13 : decode tp_bM_makeRoom 13 = .ok (.iload_n 2, 1) := by decide +kernel
theorem dM_makeRoom_14 : decode tp_bM_makeRoom 14 = .ok (.baload, 1) := by decide +kernel
theorem dM_makeRoom_15 : decode tp_bM_makeRoom 15 = .ok (.ifCond .eq 75, 3) := by decide +kernel
theorem dM_makeRoom_18 : decode tp_bM_makeRoom 18 = .ok (.aload_n 0, 1) := by decide +kernel
theorem dM_makeRoom_19 : decode tp_bM_makeRoom 19 = .ok (.iload_n 2, 1) := by decide +kernel
theorem dM_makeRoom_20 : decode tp_bM_makeRoom 20 = .ok (.iload_n 1, 1) := by decide +kernel
theorem dM_makeRoom_21 : decode tp_bM_makeRoom 21 = .ok (.invokevirtual 30, 3) := by decide +kernel
theorem dM_makeRoom_24 : decode tp_bM_makeRoom 24 = .ok (.ifCond .ne 66, 3) := by decide +kernel
theorem dM_makeRoom_27 : decode tp_bM_makeRoom 27 = .ok (.iconst 0, 1) := by decide +kernel
theorem dM_makeRoom_28 : decode tp_bM_makeRoom 28 = .ok (.istore_n 3, 1) := by decide +kernel
theorem dM_makeRoom_29 : decode tp_bM_makeRoom 29 = .ok (.iload_n 3, 1) := by decide +kernel
theorem dM_makeRoom_30 : decode tp_bM_makeRoom 30 = .ok (.bipush 12, 2) := by decide +kernel
theorem dM_makeRoom_32 : decode tp_bM_makeRoom 32 = .ok (.if_icmp .ge 58, 3) := by decide +kernel
theorem dM_makeRoom_35 : decode tp_bM_makeRoom 35 = .ok (.aload_n 0, 1) := by decide +kernel
theorem dM_makeRoom_36 : decode tp_bM_makeRoom 36 = .ok (.iload_n 2, 1) := by decide +kernel
theorem dM_makeRoom_37 : decode tp_bM_makeRoom 37 = .ok (.iload_n 3, 1) := by decide +kernel
theorem dM_makeRoom_38 : decode tp_bM_makeRoom 38 = .ok (.invokevirtual 30, 3) := by decide +kernel
theorem dM_makeRoom_41 : decode tp_bM_makeRoom 41 = .ok (.ifCond .eq 43, 3) := by decide +kernel
theorem dM_makeRoom_44 : decode tp_bM_makeRoom 44 = .ok (.aload_n 0, 1) := by decide +kernel
theorem dM_makeRoom_45 : decode tp_bM_makeRoom 45 = .ok (.iload_n 3, 1) := by decide +kernel
theorem dM_makeRoom_46 : decode tp_bM_makeRoom 46 = .ok (.invokevirtual 38, 3) := by decide +kernel
theorem dM_makeRoom_49 : decode tp_bM_makeRoom 49 = .ok (.ifCond .eq 35, 3) := by decide +kernel
theorem dM_makeRoom_52 : decode tp_bM_makeRoom 52 = .ok (.aload_n 0, 1) := by decide +kernel
theorem dM_makeRoom_53 : decode tp_bM_makeRoom 53 = .ok (.getfield 20, 3) := by decide +kernel
theorem dM_makeRoom_56 : decode tp_bM_makeRoom 56 = .ok (.iload_n 2, 1) := by decide +kernel
theorem dM_makeRoom_57 : decode tp_bM_makeRoom 57 = .ok (.aload_n 0, 1) := by decide +kernel
theorem dM_makeRoom_58 : decode tp_bM_makeRoom 58 = .ok (.getfield 20, 3) := by decide +kernel
theorem dM_makeRoom_61 : decode tp_bM_makeRoom 61 = .ok (.iload_n 2, 1) := by decide +kernel
theorem dM_makeRoom_62 : decode tp_bM_makeRoom 62 = .ok (.iaload, 1) := by decide +kernel
theorem dM_makeRoom_63 : decode tp_bM_makeRoom 63 = .ok (.iconst 1, 1) := by decide +kernel
theorem dM_makeRoom_64 : decode tp_bM_makeRoom 64 = .ok (.iload_n 3, 1) := by decide +kernel
theorem dM_makeRoom_65 : decode tp_bM_makeRoom 65 = .ok (.ishl, 1) := by decide +kernel
theorem dM_makeRoom_66 : decode tp_bM_makeRoom 66 = .ok (.isub, 1) := by decide +kernel
theorem dM_makeRoom_67 : decode tp_bM_makeRoom 67 = .ok (.iconst 1, 1) := by decide +kernel
theorem dM_makeRoom_68 : decode tp_bM_makeRoom 68 = .ok (.iload_n 1, 1) := by decide +kernel
theorem dM_makeRoom_69 : decode tp_bM_makeRoom 69 = .ok (.ishl, 1) := by decide +kernel
theorem dM_makeRoom_70 : decode tp_bM_makeRoom 70 = .ok (.iadd, 1) := by decide +kernel
theorem dM_makeRoom_71 : decode tp_bM_makeRoom 71 = .ok (.iastore, 1) := by decide +kernel
theorem dM_makeRoom_72 : decode tp_bM_makeRoom 72 = .ok (.aload_n 0, 1) := by decide +kernel
theorem dM_makeRoom_73 : decode tp_bM_makeRoom 73 = .ok (.dup, 1) := by decide +kernel
theorem dM_makeRoom_74 : decode tp_bM_makeRoom 74 = .ok (.getfield 51, 3) := by decide +kernel
theorem dM_makeRoom_77 : decode tp_bM_makeRoom 77 = .ok (.iconst 1, 1) := by decide +kernel
theorem dM_makeRoom_78 : decode tp_bM_makeRoom 78 = .ok (.iadd, 1) := by decide +kernel
theorem dM_makeRoom_79 : decode tp_bM_makeRoom 79 = .ok (.putfield 51, 3) := by decide +kernel
theorem dM_makeRoom_82 : decode tp_bM_makeRoom 82 = .ok (.iload_n 3, 1) := by decide +kernel
theorem dM_makeRoom_83 : decode tp_bM_makeRoom 83 = .ok (.ireturn, 1) := by decide +kernel
theorem dM_makeRoom_84 : decode tp_bM_makeRoom 84 = .ok (.iinc 3 1, 3) := by decide +kernel
theorem dM_makeRoom_87 : decode tp_bM_makeRoom 87 = .ok (.goto (-58), 3) := by decide +kernel
theorem dM_makeRoom_90 : decode tp_bM_makeRoom 90 = .ok (.iinc 2 1, 3) := by decide +kernel
theorem dM_makeRoom_93 : decode tp_bM_makeRoom 93 = .ok (.goto (-91), 3) := by decide +kernel
theorem dM_makeRoom_96 : decode tp_bM_makeRoom 96 = .ok (.iconst (-1), 1) := by decide +kernel
theorem dM_makeRoom_97 : decode tp_bM_makeRoom 97 = .ok (.ireturn, 1) := by decide +kernel
theorem dM_newChunk_0 : decode tp_bM_newChunk 0 = .ok (.iconst 0, 1) := by decide +kernel
theorem dM_newChunk_1 : decode tp_bM_newChunk 1 = .ok (.istore_n 1, 1) := by decide +kernel
theorem dM_newChunk_2 : decode tp_bM_newChunk 2 = .ok (.iload_n 1, 1) := by decide +kernel
theorem dM_newChunk_3 : decode tp_bM_newChunk 3 = .ok (.sipush 400, 3) := by decide +kernel
theorem dM_newChunk_6 : decode tp_bM_newChunk 6 = .ok (.if_icmp .ge 18, 3) := by decide +kernel
theorem dM_newChunk_9 : decode tp_bM_newChunk 9 = .ok (.aload_n 0, 1) := by decide +kernel
theorem dM_newChunk_10 : decode tp_bM_newChunk 10 = .ok (.getfield 17, 3) := by decide +kernel
theorem dM_newChunk_13 : decode tp_bM_newChunk 13 = .ok (.iload_n 1, 1) := by decide +kernel
theorem dM_newChunk_14 : decode tp_bM_newChunk 14 = .ok (.baload, 1) := by decide +kernel
theorem dM_newChunk_15 : decode tp_bM_newChunk 15 = .ok (.ifCond .eq 9, 3) := by decide +kernel
theorem dM_newChunk_18 : decode tp_bM_newChunk 18 = .ok (.iinc 1 1, 3) := by decide +kernel
theorem dM_newChunk_21 : decode tp_bM_newChunk 21 = .ok (.goto (-19), 3) := by decide +kernel
theorem dM_newChunk_24 : decode tp_bM_newChunk 24 = .ok (.iload_n 1, 1) := by decide +kernel
theorem dM_newChunk_25 : decode tp_bM_newChunk 25 = .ok (.sipush 400, 3) := by decide +kernel
theorem dM_newChunk_28 : decode tp_bM_newChunk 28 = .ok (.if_icmp .ne 5, 3) := by decide +kernel
theorem dM_newChunk_31 : decode tp_bM_newChunk 31 = .ok (.iconst (-1), 1) := by decide +kernel
theorem dM_newChunk_32 : decode tp_bM_newChunk 32 = .ok (.ireturn, 1) := by decide +kernel
theorem dM_newChunk_33 : decode tp_bM_newChunk 33 = .ok (.aload_n 0, 1) := by decide +kernel
theorem dM_newChunk_34 : decode tp_bM_newChunk 34 = .ok (.iconst (-1), 1) := by decide +kernel
theorem dM_newChunk_35 : decode tp_bM_newChunk 35 = .ok (.iconst (-1), 1) := by decide +kernel
theorem dM_newChunk_36 : decode tp_bM_newChunk 36 = .ok (.invokevirtual 54, 3) := by decide +kernel
theorem dM_newChunk_39 : decode tp_bM_newChunk 39 = .ok (.istore_n 2, 1) := by decide +kernel
theorem dM_newChunk_40 : decode tp_bM_newChunk 40 = .ok (.iload_n 2, 1) := by decide +kernel
theorem dM_newChunk_41 : decode tp_bM_newChunk 41 = .ok (.ifCond .ge 7, 3) := by decide +kernel
theorem dM_newChunk_44 : decode tp_bM_newChunk 44 = .ok (.iconst (-1), 1) := by decide +kernel
theorem dM_newChunk_45 : decode tp_bM_newChunk 45 = .ok (.goto 9, 3) := by decide +kernel
theorem dM_newChunk_48 : decode tp_bM_newChunk 48 = .ok (.aload_n 0, 1) := by decide +kernel
theorem dM_newChunk_49 : decode tp_bM_newChunk 49 = .ok (.iload_n 2, 1) := by decide +kernel
theorem dM_newChunk_50 : decode tp_bM_newChunk 50 = .ok (.iconst (-1), 1) := by decide +kernel
theorem dM_newChunk_51 : decode tp_bM_newChunk 51 = .ok (.invokevirtual 54, 3) := by decide +kernel
theorem dM_newChunk_54 : decode tp_bM_newChunk 54 = .ok (.istore_n 3, 1) := by decide +kernel
theorem dM_newChunk_55 : decode tp_bM_newChunk 55 = .ok (.iload_n 2, 1) := by decide +kernel
theorem dM_newChunk_56 : decode tp_bM_newChunk 56 = .ok (.ifCond .lt 22, 3) := by decide +kernel
theorem dM_newChunk_59 : decode tp_bM_newChunk 59 = .ok (.iload_n 3, 1) := by decide +kernel
theorem dM_newChunk_60 : decode tp_bM_newChunk 60 = .ok (.ifCond .ge 18, 3) := by decide +kernel
theorem dM_newChunk_63 : decode tp_bM_newChunk 63 = .ok (.aload_n 0, 1) := by decide +kernel
theorem dM_newChunk_64 : decode tp_bM_newChunk 64 = .ok (.iload_n 2, 1) := by decide +kernel
theorem dM_newChunk_65 : decode tp_bM_newChunk 65 = .ok (.invokevirtual 42, 3) := by decide +kernel
theorem dM_newChunk_68 : decode tp_bM_newChunk 68 = .ok (.iconst 2, 1) := by decide +kernel
theorem dM_newChunk_69 : decode tp_bM_newChunk 69 = .ok (.if_icmp .lt 9, 3) := by decide +kernel
theorem dM_newChunk_72 : decode tp_bM_newChunk 72 = .ok (.aload_n 0, 1) := by decide +kernel
theorem dM_newChunk_73 : decode tp_bM_newChunk 73 = .ok (.iload_n 2, 1) := by decide +kernel
theorem dM_newChunk_74 : decode tp_bM_newChunk 74 = .ok (.invokevirtual 58, 3) := by decide +kernel
theorem dM_newChunk_77 : decode tp_bM_newChunk 77 = .ok (.istore_n 3, 1) := by decide +kernel
theorem dM_newChunk_78 : decode tp_bM_newChunk 78 = .ok (.iload_n 3, 1) := by decide +kernel
theorem dM_newChunk_79 : decode tp_bM_newChunk 79 = .ok (.ifCond .ge 5, 3) := by decide +kernel
theorem dM_newChunk_82 : decode tp_bM_newChunk 82 = .ok (.iconst (-1), 1) := by decide +kernel
theorem dM_newChunk_83 : decode tp_bM_newChunk 83 = .ok (.ireturn, 1) := by decide +kernel
theorem dM_newChunk_84 : decode tp_bM_newChunk 84 = .ok (.aload_n 0, 1) := by decide +kernel
theorem dM_newChunk_85 : decode tp_bM_newChunk 85 = .ok (.getfield 17, 3) := by decide +kernel
theorem dM_newChunk_88 : decode tp_bM_newChunk 88 = .ok (.iload_n 1, 1) := by decide +kernel
theorem dM_newChunk_89 : decode tp_bM_newChunk 89 = .ok (.iconst 1, 1) := by decide +kernel
theorem dM_newChunk_90 : decode tp_bM_newChunk 90 = .ok (.bastore, 1) := by decide +kernel
theorem dM_newChunk_91 : decode tp_bM_newChunk 91 = .ok (.aload_n 0, 1) := by decide +kernel
theorem dM_newChunk_92 : decode tp_bM_newChunk 92 = .ok (.getfield 20, 3) := by decide +kernel
theorem dM_newChunk_95 : decode tp_bM_newChunk 95 = .ok (.iload_n 1, 1) := by decide +kernel
theorem dM_newChunk_96 : decode tp_bM_newChunk 96 = .ok (.iconst 1, 1) := by decide +kernel
theorem dM_newChunk_97 : decode tp_bM_newChunk 97 = .ok (.iload_n 2, 1) := by decide +kernel
theorem dM_newChunk_98 : decode tp_bM_newChunk 98 = .ok (.ishl, 1) := by decide +kernel
theorem dM_newChunk_99 : decode tp_bM_newChunk 99 = .ok (.iconst 1, 1) := by decide +kernel
theorem dM_newChunk_100 : decode tp_bM_newChunk 100 = .ok (.iload_n 3, 1) := by decide +kernel
theorem dM_newChunk_101 : decode tp_bM_newChunk 101 = .ok (.ishl, 1) := by decide +kernel
theorem dM_newChunk_102 : decode tp_bM_newChunk 102 = .ok (.iadd, 1) := by decide +kernel
theorem dM_newChunk_103 : decode tp_bM_newChunk 103 = .ok (.iastore, 1) := by decide +kernel
theorem dM_newChunk_104 : decode tp_bM_newChunk 104 = .ok (.iconst 0, 1) := by decide +kernel
theorem dM_newChunk_105 : decode tp_bM_newChunk 105 = .ok (.istore 4, 2) := by decide +kernel
theorem dM_newChunk_107 : decode tp_bM_newChunk 107 = .ok (.iload 4, 2) := by decide +kernel
theorem dM_newChunk_109 : decode tp_bM_newChunk 109 = .ok (.iconst 4, 1) := by decide +kernel
theorem dM_newChunk_110 : decode tp_bM_newChunk 110 = .ok (.if_icmp .ge 21, 3) := by decide +kernel
theorem dM_newChunk_113 : decode tp_bM_newChunk 113 = .ok (.aload_n 0, 1) := by decide +kernel
theorem dM_newChunk_114 : decode tp_bM_newChunk 114 = .ok (.getfield 23, 3) := by decide +kernel
theorem dM_newChunk_117 : decode tp_bM_newChunk 117 = .ok (.iconst 4, 1) := by decide +kernel
theorem dM_newChunk_118 : decode tp_bM_newChunk 118 = .ok (.iload_n 1, 1) := by decide +kernel
theorem dM_newChunk_119 : decode tp_bM_newChunk 119 = .ok (.imul, 1) := by decide +kernel
theorem dM_newChunk_120 : decode tp_bM_newChunk 120 = .ok (.iload 4, 2) := by decide +kernel
theorem dM_newChunk_122 : decode tp_bM_newChunk 122 = .ok (.iadd, 1) := by decide +kernel
theorem dM_newChunk_123 : decode tp_bM_newChunk 123 = .ok (.iconst 0, 1) := by decide +kernel
theorem dM_newChunk_124 : decode tp_bM_newChunk 124 = .ok (.iastore, 1) := by decide +kernel
theorem dM_newChunk_125 : decode tp_bM_newChunk 125 = .ok (.iinc 4 1, 3) := by decide +kernel
theorem dM_newChunk_128 : decode tp_bM_newChunk 128 = .ok (.goto (-21), 3) := by decide +kernel
theorem dM_newChunk_131 : decode tp_bM_newChunk 131 = .ok (.iload_n 1, 1) := by decide +kernel
theorem dM_newChunk_132 : decode tp_bM_newChunk 132 = .ok (.ireturn, 1) := by decide +kernel
theorem dM_chunk_0 : decode tp_bM_chunk 0 = .ok (.aload_n 0, 1) := by decide +kernel
theorem dM_chunk_1 : decode tp_bM_chunk 1 = .ok (.invokevirtual 61, 3) := by decide +kernel
theorem dM_chunk_4 : decode tp_bM_chunk 4 = .ok (.istore_n 1, 1) := by decide +kernel
theorem dM_chunk_5 : decode tp_bM_chunk 5 = .ok (.aload_n 0, 1) := by decide +kernel
theorem dM_chunk_6 : decode tp_bM_chunk 6 = .ok (.iload_n 1, 1) := by decide +kernel
theorem dM_chunk_7 : decode tp_bM_chunk 7 = .ok (.ifCond .ge 7, 3) := by decide +kernel
theorem dM_chunk_10 : decode tp_bM_chunk 10 = .ok (.iconst 1, 1) := by decide +kernel
theorem dM_chunk_11 : decode tp_bM_chunk 11 = .ok (.goto 4, 3) := by decide +kernel
theorem dM_chunk_14 : decode tp_bM_chunk 14 = .ok (.iconst 0, 1) := by decide +kernel
theorem dM_chunk_15 : decode tp_bM_chunk 15 = .ok (.putfield 26, 3) := by decide +kernel
theorem dM_chunk_18 : decode tp_bM_chunk 18 = .ok (.iload_n 1, 1) := by decide +kernel
theorem dM_chunk_19 : decode tp_bM_chunk 19 = .ok (.ifCond .ge 7, 3) := by decide +kernel
theorem dM_chunk_22 : decode tp_bM_chunk 22 = .ok (.iconst 0, 1) := by decide +kernel
theorem dM_chunk_23 : decode tp_bM_chunk 23 = .ok (.goto 4, 3) := by decide +kernel
theorem dM_chunk_26 : decode tp_bM_chunk 26 = .ok (.iload_n 1, 1) := by decide +kernel
theorem dM_chunk_27 : decode tp_bM_chunk 27 = .ok (.ireturn, 1) := by decide +kernel
theorem dM_chunks_0 : decode tp_bM_chunks 0 = .ok (.aload_n 0, 1) := by decide +kernel
theorem dM_chunks_1 : decode tp_bM_chunks 1 = .ok (.iload_n 1, 1) := by decide +kernel
theorem dM_chunks_2 : decode tp_bM_chunks 2 = .ok (.ifCond .ge 7, 3) := by decide +kernel
theorem dM_chunks_5 : decode tp_bM_chunks 5 = .ok (.iconst 1, 1) := by decide +kernel
theorem dM_chunks_6 : decode tp_bM_chunks 6 = .ok (.goto 4, 3) := by decide +kernel
theorem dM_chunks_9 : decode tp_bM_chunks 9 = .ok (.iconst 0, 1) := by decide +kernel
theorem dM_chunks_10 : decode tp_bM_chunks 10 = .ok (.putfield 26, 3) := by decide +kernel
theorem dM_chunks_13 : decode tp_bM_chunks 13 = .ok (.iconst 0, 1) := by decide +kernel
theorem dM_chunks_14 : decode tp_bM_chunks 14 = .ok (.istore_n 2, 1) := by decide +kernel
theorem dM_chunks_15 : decode tp_bM_chunks 15 = .ok (.iload_n 2, 1) := by decide +kernel
theorem dM_chunks_16 : decode tp_bM_chunks 16 = .ok (.iload_n 1, 1) := by decide +kernel
theorem dM_chunks_17 : decode tp_bM_chunks 17 = .ok (.if_icmp .ge 16, 3) := by decide +kernel
theorem dM_chunks_20 : decode tp_bM_chunks 20 = .ok (.aload_n 0, 1) := by decide +kernel
theorem dM_chunks_21 : decode tp_bM_chunks 21 = .ok (.invokevirtual 61, 3) := by decide +kernel
theorem dM_chunks_24 : decode tp_bM_chunks 24 = .ok (.ifCond .lt 9, 3) := by decide +kernel
theorem dM_chunks_27 : decode tp_bM_chunks 27 = .ok (.iinc 2 1, 3) := by decide +kernel
theorem dM_chunks_30 : decode tp_bM_chunks 30 = .ok (.goto (-15), 3) := by decide +kernel
theorem dM_chunks_33 : decode tp_bM_chunks 33 = .ok (.iload_n 2, 1) := by decide +kernel
theorem dM_chunks_34 : decode tp_bM_chunks 34 = .ok (.ireturn, 1) := by decide +kernel
theorem dM_free_0 : decode tp_bM_free 0 = .ok (.aload_n 0, 1) := by decide +kernel
theorem dM_free_1 : decode tp_bM_free 1 = .ok (.aload_n 0, 1) := by decide +kernel
theorem dM_free_2 : decode tp_bM_free 2 = .ok (.iload_n 1, 1) := by decide +kernel
theorem dM_free_3 : decode tp_bM_free 3 = .ok (.invokevirtual 65, 3) := by decide +kernel
theorem dM_free_6 : decode tp_bM_free 6 = .ok (.ifCond .eq 7, 3) := by decide +kernel
theorem dM_free_9 : decode tp_bM_free 9 = .ok (.iconst 0, 1) := by decide +kernel
theorem dM_free_10 : decode tp_bM_free 10 = .ok (.goto 4, 3) := by decide +kernel
theorem dM_free_13 : decode tp_bM_free 13 = .ok (.iconst 1, 1) := by decide +kernel
theorem dM_free_14 : decode tp_bM_free 14 = .ok (.putfield 26, 3) := by decide +kernel
theorem dM_free_17 : decode tp_bM_free 17 = .ok (.aload_n 0, 1) := by decide +kernel
theorem dM_free_18 : decode tp_bM_free 18 = .ok (.getfield 26, 3) := by decide +kernel
theorem dM_free_21 : decode tp_bM_free 21 = .ok (.ifCond .le 5, 3) := by decide +kernel
theorem dM_free_24 : decode tp_bM_free 24 = .ok (.iconst 0, 1) := by decide +kernel
theorem dM_free_25 : decode tp_bM_free 25 = .ok (.ireturn, 1) := by decide +kernel
theorem dM_free_26 : decode tp_bM_free 26 = .ok (.aload_n 0, 1) := by decide +kernel
theorem dM_free_27 : decode tp_bM_free 27 = .ok (.iload_n 1, 1) := by decide +kernel
theorem dM_free_28 : decode tp_bM_free 28 = .ok (.invokevirtual 45, 3) := by decide +kernel
theorem dM_free_31 : decode tp_bM_free 31 = .ok (.istore_n 2, 1) := by decide +kernel
theorem dM_free_32 : decode tp_bM_free 32 = .ok (.aload_n 0, 1) := by decide +kernel
theorem dM_free_33 : decode tp_bM_free 33 = .ok (.getfield 17, 3) := by decide +kernel
theorem dM_free_36 : decode tp_bM_free 36 = .ok (.iload_n 1, 1) := by decide +kernel
theorem dM_free_37 : decode tp_bM_free 37 = .ok (.iconst 0, 1) := by decide +kernel
theorem dM_free_38 : decode tp_bM_free 38 = .ok (.bastore, 1) := by decide +kernel
theorem dM_free_39 : decode tp_bM_free 39 = .ok (.aload_n 0, 1) := by decide +kernel
theorem dM_free_40 : decode tp_bM_free 40 = .ok (.getfield 20, 3) := by decide +kernel
theorem dM_free_43 : decode tp_bM_free 43 = .ok (.iload_n 1, 1) := by decide +kernel
theorem dM_free_44 : decode tp_bM_free 44 = .ok (.iconst 0, 1) := by decide +kernel
theorem dM_free_45 : decode tp_bM_free 45 = .ok (.iastore, 1) := by decide +kernel
theorem dM_free_46 : decode tp_bM_free 46 = .ok (.aload_n 0, 1) := by decide +kernel
theorem dM_free_47 : decode tp_bM_free 47 = .ok (.invokevirtual 68, 3) := by decide +kernel
theorem dM_free_50 : decode tp_bM_free 50 = .ok (.iload_n 2, 1) := by decide +kernel
theorem dM_free_51 : decode tp_bM_free 51 = .ok (.ireturn, 1) := by decide +kernel
theorem dM_copyOne_0 : decode tp_bM_copyOne 0 = .ok (.iconst 0, 1) := by decide +kernel
theorem dM_copyOne_1 : decode tp_bM_copyOne 1 = .ok (.istore_n 1, 1) := by decide +kernel
theorem dM_copyOne_2 : decode tp_bM_copyOne 2 = .ok (.iload_n 1, 1) := by decide +kernel
theorem dM_copyOne_3 : decode tp_bM_copyOne 3 = .ok (.sipush 400, 3) := by decide +kernel
theorem dM_copyOne_6 : decode tp_bM_copyOne 6 = .ok (.if_icmp .ge 56, 3) := by decide +kernel
theorem dM_copyOne_9 : decode tp_bM_copyOne 9 = .ok (.aload_n 0, 1) := by decide +kernel
theorem dM_copyOne_10 : decode tp_bM_copyOne 10 = .ok (.getfield 17, 3) := by decide +kernel
theorem dM_copyOne_13 : decode tp_bM_copyOne 13 = .ok (.iload_n 1, 1) := by decide +kernel
theorem dM_copyOne_14 : decode tp_bM_copyOne 14 = .ok (.baload, 1) := by decide +kernel
theorem dM_copyOne_15 : decode tp_bM_copyOne 15 = .ok (.ifCond .eq 41, 3) := by decide +kernel
theorem dM_copyOne_18 : decode tp_bM_copyOne 18 = .ok (.aload_n 0, 1) := by decide +kernel
theorem dM_copyOne_19 : decode tp_bM_copyOne 19 = .ok (.iload_n 1, 1) := by decide +kernel
theorem dM_copyOne_20 : decode tp_bM_copyOne 20 = .ok (.invokevirtual 45, 3) := by decide +kernel
theorem dM_copyOne_23 : decode tp_bM_copyOne 23 = .ok (.iconst 1, 1) := by decide +kernel
theorem dM_copyOne_24 : decode tp_bM_copyOne 24 = .ok (.if_icmp .ne 32, 3) := by decide +kernel
theorem dM_copyOne_27 : decode tp_bM_copyOne 27 = .ok (.aload_n 0, 1) := by decide +kernel
theorem dM_copyOne_28 : decode tp_bM_copyOne 28 = .ok (.iconst (-1), 1) := by decide +kernel
theorem dM_copyOne_29 : decode tp_bM_copyOne 29 = .ok (.iload_n 1, 1) := by decide +kernel
theorem dM_copyOne_30 : decode tp_bM_copyOne 30 = .ok (.invokevirtual 54, 3) := by decide +kernel
theorem dM_copyOne_33 : decode tp_bM_copyOne 33 = .ok (.istore_n 2, 1) := by decide +kernel
theorem dM_copyOne_34 : decode tp_bM_copyOne 34 = .ok (.iload_n 2, 1) := by decide +kernel
theorem dM_copyOne_35 : decode tp_bM_copyOne 35 = .ok (.ifCond .lt 21, 3) := by decide +kernel
theorem dM_copyOne_38 : decode tp_bM_copyOne 38 = .ok (.aload_n 0, 1) := by decide +kernel
theorem dM_copyOne_39 : decode tp_bM_copyOne 39 = .ok (.getfield 20, 3) := by decide +kernel
theorem dM_copyOne_42 : decode tp_bM_copyOne 42 = .ok (.iload_n 1, 1) := by decide +kernel
theorem dM_copyOne_43 : decode tp_bM_copyOne 43 = .ok (.aload_n 0, 1) := by decide +kernel
theorem dM_copyOne_44 : decode tp_bM_copyOne 44 = .ok (.getfield 20, 3) := by decide +kernel
theorem dM_copyOne_47 : decode tp_bM_copyOne 47 = .ok (.iload_n 1, 1) := by decide +kernel
theorem dM_copyOne_48 : decode tp_bM_copyOne 48 = .ok (.iaload, 1) := by decide +kernel
theorem dM_copyOne_49 : decode tp_bM_copyOne 49 = .ok (.iconst 1, 1) := by decide +kernel
theorem dM_copyOne_50 : decode tp_bM_copyOne 50 = .ok (.iload_n 2, 1) := by decide +kernel
theorem dM_copyOne_51 : decode tp_bM_copyOne 51 = .ok (.ishl, 1) := by decide +kernel
theorem dM_copyOne_52 : decode tp_bM_copyOne 52 = .ok (.iadd, 1) := by decide +kernel
theorem dM_copyOne_53 : decode tp_bM_copyOne 53 = .ok (.iastore, 1) := by decide +kernel
theorem dM_copyOne_54 : decode tp_bM_copyOne 54 = .ok (.iconst 1, 1) := by decide +kernel
theorem dM_copyOne_55 : decode tp_bM_copyOne 55 = .ok (.ireturn, 1) := by decide +kernel
theorem dM_copyOne_56 : decode tp_bM_copyOne 56 = .ok (.iinc 1 1, 3) := by decide +kernel
theorem dM_copyOne_59 : decode tp_bM_copyOne 59 = .ok (.goto (-57), 3) := by decide +kernel
theorem dM_copyOne_62 : decode tp_bM_copyOne 62 = .ok (.iconst 0, 1) := by decide +kernel
theorem dM_copyOne_63 : decode tp_bM_copyOne 63 = .ok (.ireturn, 1) := by decide +kernel
theorem dM_roomFor_0 : decode tp_bM_roomFor 0 = .ok (.iconst 0, 1) := by decide +kernel
theorem dM_roomFor_1 : decode tp_bM_roomFor 1 = .ok (.istore_n 3, 1) := by decide +kernel
theorem dM_roomFor_2 : decode tp_bM_roomFor 2 = .ok (.iload_n 3, 1) := by decide +kernel
theorem dM_roomFor_3 : decode tp_bM_roomFor 3 = .ok (.bipush 12, 2) := by decide +kernel
theorem dM_roomFor_5 : decode tp_bM_roomFor 5 = .ok (.if_icmp .ge 49, 3) := by decide +kernel
theorem dM_roomFor_8 : decode tp_bM_roomFor 8 = .ok (.iload_n 3, 1) := by decide +kernel
theorem dM_roomFor_9 : decode tp_bM_roomFor 9 = .ok (.iload_n 2, 1) := by decide +kernel
theorem dM_roomFor_10 : decode tp_bM_roomFor 10 = .ok (.if_icmp .eq 38, 3) := by decide +kernel
theorem dM_roomFor_13 : decode tp_bM_roomFor 13 = .ok (.aload_n 0, 1) := by decide +kernel
theorem dM_roomFor_14 : decode tp_bM_roomFor 14 = .ok (.iload_n 1, 1) := by decide +kernel
theorem dM_roomFor_15 : decode tp_bM_roomFor 15 = .ok (.iload_n 3, 1) := by decide +kernel
theorem dM_roomFor_16 : decode tp_bM_roomFor 16 = .ok (.invokevirtual 30, 3) := by decide +kernel
theorem dM_roomFor_19 : decode tp_bM_roomFor 19 = .ok (.ifCond .eq 29, 3) := by decide +kernel
theorem dM_roomFor_22 : decode tp_bM_roomFor 22 = .ok (.aload_n 0, 1) := by decide +kernel
theorem dM_roomFor_23 : decode tp_bM_roomFor 23 = .ok (.iload_n 3, 1) := by decide +kernel
theorem dM_roomFor_24 : decode tp_bM_roomFor 24 = .ok (.invokevirtual 38, 3) := by decide +kernel
theorem dM_roomFor_27 : decode tp_bM_roomFor 27 = .ok (.ifCond .eq 21, 3) := by decide +kernel
theorem dM_roomFor_30 : decode tp_bM_roomFor 30 = .ok (.aload_n 0, 1) := by decide +kernel
theorem dM_roomFor_31 : decode tp_bM_roomFor 31 = .ok (.iload_n 3, 1) := by decide +kernel
theorem dM_roomFor_32 : decode tp_bM_roomFor 32 = .ok (.invokevirtual 42, 3) := by decide +kernel
theorem dM_roomFor_35 : decode tp_bM_roomFor 35 = .ok (.ifCond .le 13, 3) := by decide +kernel
theorem dM_roomFor_38 : decode tp_bM_roomFor 38 = .ok (.aload_n 0, 1) := by decide +kernel
theorem dM_roomFor_39 : decode tp_bM_roomFor 39 = .ok (.iload_n 3, 1) := by decide +kernel
theorem dM_roomFor_40 : decode tp_bM_roomFor 40 = .ok (.invokevirtual 58, 3) := by decide +kernel
theorem dM_roomFor_43 : decode tp_bM_roomFor 43 = .ok (.ifCond .lt 5, 3) := by decide +kernel
theorem dM_roomFor_46 : decode tp_bM_roomFor 46 = .ok (.iconst 1, 1) := by decide +kernel
theorem dM_roomFor_47 : decode tp_bM_roomFor 47 = .ok (.ireturn, 1) := by decide +kernel
theorem dM_roomFor_48 : decode tp_bM_roomFor 48 = .ok (.iinc 3 1, 3) := by decide +kernel
theorem dM_roomFor_51 : decode tp_bM_roomFor 51 = .ok (.goto (-49), 3) := by decide +kernel
theorem dM_roomFor_54 : decode tp_bM_roomFor 54 = .ok (.iconst 0, 1) := by decide +kernel
theorem dM_roomFor_55 : decode tp_bM_roomFor 55 = .ok (.ireturn, 1) := by decide +kernel
theorem dM_roomForOne_0 : decode tp_bM_roomForOne 0 = .ok (.iconst 0, 1) := by decide +kernel
theorem dM_roomForOne_1 : decode tp_bM_roomForOne 1 = .ok (.istore_n 1, 1) := by decide +kernel
theorem dM_roomForOne_2 : decode tp_bM_roomForOne 2 = .ok (.iload_n 1, 1) := by decide +kernel
theorem dM_roomForOne_3 : decode tp_bM_roomForOne 3 = .ok (.sipush 400, 3) := by decide +kernel
theorem dM_roomForOne_6 : decode tp_bM_roomForOne 6 = .ok (.if_icmp .ge 38, 3) := by decide +kernel
theorem dM_roomForOne_9 : decode tp_bM_roomForOne 9 = .ok (.aload_n 0, 1) := by decide +kernel
theorem dM_roomForOne_10 : decode tp_bM_roomForOne 10 = .ok (.getfield 17, 3) := by decide +kernel
theorem dM_roomForOne_13 : decode tp_bM_roomForOne 13 = .ok (.iload_n 1, 1) := by decide +kernel
theorem dM_roomForOne_14 : decode tp_bM_roomForOne 14 = .ok (.baload, 1) := by decide +kernel
theorem dM_roomForOne_15 : decode tp_bM_roomForOne 15 = .ok (.ifCond .eq 23, 3) := by decide +kernel
theorem dM_roomForOne_18 : decode tp_bM_roomForOne 18 = .ok (.aload_n 0, 1) := by decide +kernel
theorem dM_roomForOne_19 : decode tp_bM_roomForOne 19 = .ok (.iload_n 1, 1) := by decide +kernel
theorem dM_roomForOne_20 : decode tp_bM_roomForOne 20 = .ok (.invokevirtual 45, 3) := by decide +kernel
theorem dM_roomForOne_23 : decode tp_bM_roomForOne 23 = .ok (.iconst 1, 1) := by decide +kernel
end
section
theorem dM_roomForOne_24 : decode tp_bM_roomForOne 24 = .ok (.if_icmp .ne 14, 3) := by decide +kernel
theorem dM_roomForOne_27 : decode tp_bM_roomForOne 27 = .ok (.aload_n 0, 1) := by decide +kernel
theorem dM_roomForOne_28 : decode tp_bM_roomForOne 28 = .ok (.iload_n 1, 1) := by decide +kernel
theorem dM_roomForOne_29 : decode tp_bM_roomForOne 29 = .ok (.iconst (-1), 1) := by decide +kernel
theorem dM_roomForOne_30 : decode tp_bM_roomForOne 30 = .ok (.invokevirtual 71, 3) := by decide +kernel
theorem dM_roomForOne_33 : decode tp_bM_roomForOne 33 = .ok (.ifCond .eq 5, 3) := by decide +kernel
theorem dM_roomForOne_36 : decode tp_bM_roomForOne 36 = .ok (.iconst 1, 1) := by decide +kernel
theorem dM_roomForOne_37 : decode tp_bM_roomForOne 37 = .ok (.ireturn, 1) := by decide +kernel
theorem dM_roomForOne_38 : decode tp_bM_roomForOne 38 = .ok (.iinc 1 1, 3) := by decide +kernel
theorem dM_roomForOne_41 : decode tp_bM_roomForOne 41 = .ok (.goto (-39), 3) := by decide +kernel
theorem dM_roomForOne_44 : decode tp_bM_roomForOne 44 = .ok (.iconst 0, 1) := by decide +kernel
theorem dM_roomForOne_45 : decode tp_bM_roomForOne 45 = .ok (.ireturn, 1) := by decide +kernel
theorem dM_leaveOne_0 : decode tp_bM_leaveOne 0 = .ok (.iconst 0, 1) := by decide +kernel
theorem dM_leaveOne_1 : decode tp_bM_leaveOne 1 = .ok (.istore_n 2, 1) := by decide +kernel
theorem dM_leaveOne_2 : decode tp_bM_leaveOne 2 = .ok (.iload_n 2, 1) := by decide +kernel
theorem dM_leaveOne_3 : decode tp_bM_leaveOne 3 = .ok (.bipush 12, 2) := by decide +kernel
theorem dM_leaveOne_5 : decode tp_bM_leaveOne 5 = .ok (.if_icmp .ge 110, 3) := by decide +kernel
theorem dM_leaveOne_8 : decode tp_bM_leaveOne 8 = .ok (.iconst 0, 1) := by decide +kernel
theorem dM_leaveOne_9 : decode tp_bM_leaveOne 9 = .ok (.istore_n 3, 1) := by decide +kernel
theorem dM_leaveOne_10 : decode tp_bM_leaveOne 10 = .ok (.iload_n 3, 1) := by decide +kernel
theorem dM_leaveOne_11 : decode tp_bM_leaveOne 11 = .ok (.sipush 400, 3) := by decide +kernel
theorem dM_leaveOne_14 : decode tp_bM_leaveOne 14 = .ok (.if_icmp .ge 95, 3) := by decide +kernel
theorem dM_leaveOne_17 : decode tp_bM_leaveOne 17 = .ok (.aload_n 0, 1) := by decide +kernel
theorem dM_leaveOne_18 : decode tp_bM_leaveOne 18 = .ok (.getfield 7, 3) := by decide +kernel
theorem dM_leaveOne_21 : decode tp_bM_leaveOne 21 = .ok (.iload_n 2, 1) := by decide +kernel
theorem dM_leaveOne_22 : decode tp_bM_leaveOne 22 = .ok (.iaload, 1) := by decide +kernel
theorem dM_leaveOne_23 : decode tp_bM_leaveOne 23 = .ok (.ifCond .le 86, 3) := by decide +kernel
theorem dM_leaveOne_26 : decode tp_bM_leaveOne 26 = .ok (.aload_n 0, 1) := by decide +kernel
theorem dM_leaveOne_27 : decode tp_bM_leaveOne 27 = .ok (.getfield 13, 3) := by decide +kernel
theorem dM_leaveOne_30 : decode tp_bM_leaveOne 30 = .ok (.iload_n 2, 1) := by decide +kernel
theorem dM_leaveOne_31 : decode tp_bM_leaveOne 31 = .ok (.baload, 1) := by decide +kernel
theorem dM_leaveOne_32 : decode tp_bM_leaveOne 32 = .ok (.ifCond .eq 77, 3) := by decide +kernel
theorem dM_leaveOne_35 : decode tp_bM_leaveOne 35 = .ok (.aload_n 0, 1) := by decide +kernel
theorem dM_leaveOne_36 : decode tp_bM_leaveOne 36 = .ok (.iload_n 3, 1) := by decide +kernel
theorem dM_leaveOne_37 : decode tp_bM_leaveOne 37 = .ok (.iload_n 2, 1) := by decide +kernel
theorem dM_leaveOne_38 : decode tp_bM_leaveOne 38 = .ok (.invokevirtual 30, 3) := by decide +kernel
theorem dM_leaveOne_41 : decode tp_bM_leaveOne 41 = .ok (.ifCond .eq 62, 3) := by decide +kernel
theorem dM_leaveOne_44 : decode tp_bM_leaveOne 44 = .ok (.iload_n 1, 1) := by decide +kernel
theorem dM_leaveOne_45 : decode tp_bM_leaveOne 45 = .ok (.ifCond .eq 7, 3) := by decide +kernel
theorem dM_leaveOne_48 : decode tp_bM_leaveOne 48 = .ok (.iconst (-1), 1) := by decide +kernel
theorem dM_leaveOne_49 : decode tp_bM_leaveOne 49 = .ok (.goto 9, 3) := by decide +kernel
theorem dM_leaveOne_52 : decode tp_bM_leaveOne 52 = .ok (.aload_n 0, 1) := by decide +kernel
theorem dM_leaveOne_53 : decode tp_bM_leaveOne 53 = .ok (.iconst (-1), 1) := by decide +kernel
theorem dM_leaveOne_54 : decode tp_bM_leaveOne 54 = .ok (.iload_n 3, 1) := by decide +kernel
theorem dM_leaveOne_55 : decode tp_bM_leaveOne 55 = .ok (.invokevirtual 54, 3) := by decide +kernel
theorem dM_leaveOne_58 : decode tp_bM_leaveOne 58 = .ok (.istore 4, 2) := by decide +kernel
theorem dM_leaveOne_60 : decode tp_bM_leaveOne 60 = .ok (.iload 4, 2) := by decide +kernel
theorem dM_leaveOne_62 : decode tp_bM_leaveOne 62 = .ok (.ifCond .lt 26, 3) := by decide +kernel
theorem dM_leaveOne_65 : decode tp_bM_leaveOne 65 = .ok (.aload_n 0, 1) := by decide +kernel
theorem dM_leaveOne_66 : decode tp_bM_leaveOne 66 = .ok (.getfield 20, 3) := by decide +kernel
theorem dM_leaveOne_69 : decode tp_bM_leaveOne 69 = .ok (.iload_n 3, 1) := by decide +kernel
theorem dM_leaveOne_70 : decode tp_bM_leaveOne 70 = .ok (.aload_n 0, 1) := by decide +kernel
theorem dM_leaveOne_71 : decode tp_bM_leaveOne 71 = .ok (.getfield 20, 3) := by decide +kernel
theorem dM_leaveOne_74 : decode tp_bM_leaveOne 74 = .ok (.iload_n 3, 1) := by decide +kernel
theorem dM_leaveOne_75 : decode tp_bM_leaveOne 75 = .ok (.iaload, 1) := by decide +kernel
theorem dM_leaveOne_76 : decode tp_bM_leaveOne 76 = .ok (.iconst 1, 1) := by decide +kernel
theorem dM_leaveOne_77 : decode tp_bM_leaveOne 77 = .ok (.iload_n 2, 1) := by decide +kernel
theorem dM_leaveOne_78 : decode tp_bM_leaveOne 78 = .ok (.ishl, 1) := by decide +kernel
theorem dM_leaveOne_79 : decode tp_bM_leaveOne 79 = .ok (.isub, 1) := by decide +kernel
theorem dM_leaveOne_80 : decode tp_bM_leaveOne 80 = .ok (.iconst 1, 1) := by decide +kernel
theorem dM_leaveOne_81 : decode tp_bM_leaveOne 81 = .ok (.iload 4, 2) := by decide +kernel
theorem dM_leaveOne_83 : decode tp_bM_leaveOne 83 = .ok (.ishl, 1) := by decide +kernel
theorem dM_leaveOne_84 : decode tp_bM_leaveOne 84 = .ok (.iadd, 1) := by decide +kernel
theorem dM_leaveOne_85 : decode tp_bM_leaveOne 85 = .ok (.iastore, 1) := by decide +kernel
theorem dM_leaveOne_86 : decode tp_bM_leaveOne 86 = .ok (.iconst 1, 1) := by decide +kernel
theorem dM_leaveOne_87 : decode tp_bM_leaveOne 87 = .ok (.ireturn, 1) := by decide +kernel
theorem dM_leaveOne_88 : decode tp_bM_leaveOne 88 = .ok (.iload_n 1, 1) := by decide +kernel
theorem dM_leaveOne_89 : decode tp_bM_leaveOne 89 = .ok (.ifCond .eq 14, 3) := by decide +kernel
theorem dM_leaveOne_92 : decode tp_bM_leaveOne 92 = .ok (.aload_n 0, 1) := by decide +kernel
theorem dM_leaveOne_93 : decode tp_bM_leaveOne 93 = .ok (.iload_n 3, 1) := by decide +kernel
theorem dM_leaveOne_94 : decode tp_bM_leaveOne 94 = .ok (.iload_n 2, 1) := by decide +kernel
theorem dM_leaveOne_95 : decode tp_bM_leaveOne 95 = .ok (.invokevirtual 71, 3) := by decide +kernel
theorem dM_leaveOne_98 : decode tp_bM_leaveOne 98 = .ok (.ifCond .eq 5, 3) := by decide +kernel
theorem dM_leaveOne_101 : decode tp_bM_leaveOne 101 = .ok (.iconst 1, 1) := by decide +kernel
theorem dM_leaveOne_102 : decode tp_bM_leaveOne 102 = .ok (.ireturn, 1) := by decide +kernel
theorem dM_leaveOne_103 : decode tp_bM_leaveOne 103 = .ok (.iinc 3 1, 3) := by decide +kernel
theorem dM_leaveOne_106 : decode tp_bM_leaveOne 106 = .ok (.goto (-96), 3) := by decide +kernel
theorem dM_leaveOne_109 : decode tp_bM_leaveOne 109 = .ok (.iinc 2 1, 3) := by decide +kernel
theorem dM_leaveOne_112 : decode tp_bM_leaveOne 112 = .ok (.goto (-110), 3) := by decide +kernel
theorem dM_leaveOne_115 : decode tp_bM_leaveOne 115 = .ok (.iconst 0, 1) := by decide +kernel
theorem dM_leaveOne_116 : decode tp_bM_leaveOne 116 = .ok (.ireturn, 1) := by decide +kernel
theorem dM_doStep_0 : decode tp_bM_doStep 0 = .ok (.aload_n 0, 1) := by decide +kernel
theorem dM_doStep_1 : decode tp_bM_doStep 1 = .ok (.invokevirtual 74, 3) := by decide +kernel
theorem dM_doStep_4 : decode tp_bM_doStep 4 = .ok (.ifCond .eq 7, 3) := by decide +kernel
theorem dM_doStep_7 : decode tp_bM_doStep 7 = .ok (.iconst 1, 1) := by decide +kernel
theorem dM_doStep_8 : decode tp_bM_doStep 8 = .ok (.goto 39, 3) := by decide +kernel
theorem dM_doStep_11 : decode tp_bM_doStep 11 = .ok (.aload_n 0, 1) := by decide +kernel
theorem dM_doStep_12 : decode tp_bM_doStep 12 = .ok (.invokevirtual 78, 3) := by decide +kernel
theorem dM_doStep_15 : decode tp_bM_doStep 15 = .ok (.ifCond .eq 7, 3) := by decide +kernel
theorem dM_doStep_18 : decode tp_bM_doStep 18 = .ok (.iconst 2, 1) := by decide +kernel
theorem dM_doStep_19 : decode tp_bM_doStep 19 = .ok (.goto 28, 3) := by decide +kernel
theorem dM_doStep_22 : decode tp_bM_doStep 22 = .ok (.aload_n 0, 1) := by decide +kernel
theorem dM_doStep_23 : decode tp_bM_doStep 23 = .ok (.iconst 0, 1) := by decide +kernel
theorem dM_doStep_24 : decode tp_bM_doStep 24 = .ok (.invokevirtual 81, 3) := by decide +kernel
theorem dM_doStep_27 : decode tp_bM_doStep 27 = .ok (.ifCond .eq 7, 3) := by decide +kernel
theorem dM_doStep_30 : decode tp_bM_doStep 30 = .ok (.iconst 3, 1) := by decide +kernel
theorem dM_doStep_31 : decode tp_bM_doStep 31 = .ok (.goto 16, 3) := by decide +kernel
theorem dM_doStep_34 : decode tp_bM_doStep 34 = .ok (.aload_n 0, 1) := by decide +kernel
theorem dM_doStep_35 : decode tp_bM_doStep 35 = .ok (.iconst 1, 1) := by decide +kernel
theorem dM_doStep_36 : decode tp_bM_doStep 36 = .ok (.invokevirtual 81, 3) := by decide +kernel
theorem dM_doStep_39 : decode tp_bM_doStep 39 = .ok (.ifCond .eq 7, 3) := by decide +kernel
theorem dM_doStep_42 : decode tp_bM_doStep 42 = .ok (.iconst 4, 1) := by decide +kernel
theorem dM_doStep_43 : decode tp_bM_doStep 43 = .ok (.goto 4, 3) := by decide +kernel
theorem dM_doStep_46 : decode tp_bM_doStep 46 = .ok (.iconst 0, 1) := by decide +kernel
theorem dM_doStep_47 : decode tp_bM_doStep 47 = .ok (.istore_n 1, 1) := by decide +kernel
theorem dM_doStep_48 : decode tp_bM_doStep 48 = .ok (.aload_n 0, 1) := by decide +kernel
theorem dM_doStep_49 : decode tp_bM_doStep 49 = .ok (.invokevirtual 68, 3) := by decide +kernel
theorem dM_doStep_52 : decode tp_bM_doStep 52 = .ok (.iload_n 1, 1) := by decide +kernel
theorem dM_doStep_53 : decode tp_bM_doStep 53 = .ok (.ireturn, 1) := by decide +kernel
theorem dM_step_0 : decode tp_bM_step 0 = .ok (.aload_n 0, 1) := by decide +kernel
theorem dM_step_1 : decode tp_bM_step 1 = .ok (.iconst 0, 1) := by decide +kernel
theorem dM_step_2 : decode tp_bM_step 2 = .ok (.putfield 26, 3) := by decide +kernel
theorem dM_step_5 : decode tp_bM_step 5 = .ok (.aload_n 0, 1) := by decide +kernel
theorem dM_step_6 : decode tp_bM_step 6 = .ok (.invokevirtual 85, 3) := by decide +kernel
theorem dM_step_9 : decode tp_bM_step 9 = .ok (.ireturn, 1) := by decide +kernel
theorem dM_steps_0 : decode tp_bM_steps 0 = .ok (.aload_n 0, 1) := by decide +kernel
theorem dM_steps_1 : decode tp_bM_steps 1 = .ok (.iload_n 1, 1) := by decide +kernel
theorem dM_steps_2 : decode tp_bM_steps 2 = .ok (.ifCond .ge 7, 3) := by decide +kernel
theorem dM_steps_5 : decode tp_bM_steps 5 = .ok (.iconst 1, 1) := by decide +kernel
theorem dM_steps_6 : decode tp_bM_steps 6 = .ok (.goto 4, 3) := by decide +kernel
theorem dM_steps_9 : decode tp_bM_steps 9 = .ok (.iconst 0, 1) := by decide +kernel
theorem dM_steps_10 : decode tp_bM_steps 10 = .ok (.putfield 26, 3) := by decide +kernel
theorem dM_steps_13 : decode tp_bM_steps 13 = .ok (.iconst 0, 1) := by decide +kernel
theorem dM_steps_14 : decode tp_bM_steps 14 = .ok (.istore_n 2, 1) := by decide +kernel
theorem dM_steps_15 : decode tp_bM_steps 15 = .ok (.iload_n 1, 1) := by decide +kernel
theorem dM_steps_16 : decode tp_bM_steps 16 = .ok (.ifCond .le 7, 3) := by decide +kernel
theorem dM_steps_19 : decode tp_bM_steps 19 = .ok (.iconst 1, 1) := by decide +kernel
theorem dM_steps_20 : decode tp_bM_steps 20 = .ok (.goto 4, 3) := by decide +kernel
theorem dM_steps_23 : decode tp_bM_steps 23 = .ok (.iconst 0, 1) := by decide +kernel
theorem dM_steps_24 : decode tp_bM_steps 24 = .ok (.istore_n 3, 1) := by decide +kernel
theorem dM_steps_25 : decode tp_bM_steps 25 = .ok (.iload_n 3, 1) := by decide +kernel
theorem dM_steps_26 : decode tp_bM_steps 26 = .ok (.ifCond .eq 46, 3) := by decide +kernel
theorem dM_steps_29 : decode tp_bM_steps 29 = .ok (.aload_n 0, 1) := by decide +kernel
theorem dM_steps_30 : decode tp_bM_steps 30 = .ok (.invokevirtual 85, 3) := by decide +kernel
theorem dM_steps_33 : decode tp_bM_steps 33 = .ok (.ifCond .le 7, 3) := by decide +kernel
theorem dM_steps_36 : decode tp_bM_steps 36 = .ok (.iconst 1, 1) := by decide +kernel
theorem dM_steps_37 : decode tp_bM_steps 37 = .ok (.goto 4, 3) := by decide +kernel
theorem dM_steps_40 : decode tp_bM_steps 40 = .ok (.iconst 0, 1) := by decide +kernel
theorem dM_steps_41 : decode tp_bM_steps 41 = .ok (.istore_n 3, 1) := by decide +kernel
theorem dM_steps_42 : decode tp_bM_steps 42 = .ok (.iload_n 3, 1) := by decide +kernel
theorem dM_steps_43 : decode tp_bM_steps 43 = .ok (.ifCond .eq 9, 3) := by decide +kernel
theorem dM_steps_46 : decode tp_bM_steps 46 = .ok (.iload_n 2, 1) := by decide +kernel
theorem dM_steps_47 : decode tp_bM_steps 47 = .ok (.iconst 1, 1) := by decide +kernel
theorem dM_steps_48 : decode tp_bM_steps 48 = .ok (.iadd, 1) := by decide +kernel
theorem dM_steps_49 : decode tp_bM_steps 49 = .ok (.goto 4, 3) := by decide +kernel
theorem dM_steps_52 : decode tp_bM_steps 52 = .ok (.iload_n 2, 1) := by decide +kernel
theorem dM_steps_53 : decode tp_bM_steps 53 = .ok (.istore_n 2, 1) := by decide +kernel
theorem dM_steps_54 : decode tp_bM_steps 54 = .ok (.iload_n 3, 1) := by decide +kernel
theorem dM_steps_55 : decode tp_bM_steps 55 = .ok (.ifCond .eq 12, 3) := by decide +kernel
theorem dM_steps_58 : decode tp_bM_steps 58 = .ok (.iload_n 2, 1) := by decide +kernel
theorem dM_steps_59 : decode tp_bM_steps 59 = .ok (.iload_n 1, 1) := by decide +kernel
theorem dM_steps_60 : decode tp_bM_steps 60 = .ok (.if_icmp .ge 7, 3) := by decide +kernel
theorem dM_steps_63 : decode tp_bM_steps 63 = .ok (.iconst 1, 1) := by decide +kernel
theorem dM_steps_64 : decode tp_bM_steps 64 = .ok (.goto 4, 3) := by decide +kernel
theorem dM_steps_67 : decode tp_bM_steps 67 = .ok (.iconst 0, 1) := by decide +kernel
theorem dM_steps_68 : decode tp_bM_steps 68 = .ok (.istore_n 3, 1) := by decide +kernel
theorem dM_steps_69 : decode tp_bM_steps 69 = .ok (.goto (-44), 3) := by decide +kernel
theorem dM_steps_72 : decode tp_bM_steps 72 = .ok (.iload_n 2, 1) := by decide +kernel
theorem dM_steps_73 : decode tp_bM_steps 73 = .ok (.ireturn, 1) := by decide +kernel
theorem dM_disk_0 : decode tp_bM_disk 0 = .ok (.aload_n 0, 1) := by decide +kernel
theorem dM_disk_1 : decode tp_bM_disk 1 = .ok (.iload_n 1, 1) := by decide +kernel
theorem dM_disk_2 : decode tp_bM_disk 2 = .ok (.ifCond .lt 9, 3) := by decide +kernel
theorem dM_disk_5 : decode tp_bM_disk 5 = .ok (.iload_n 1, 1) := by decide +kernel
theorem dM_disk_6 : decode tp_bM_disk 6 = .ok (.bipush 12, 2) := by decide +kernel
theorem dM_disk_8 : decode tp_bM_disk 8 = .ok (.if_icmp .lt 7, 3) := by decide +kernel
theorem dM_disk_11 : decode tp_bM_disk 11 = .ok (.iconst 1, 1) := by decide +kernel
theorem dM_disk_12 : decode tp_bM_disk 12 = .ok (.goto 33, 3) := by decide +kernel
theorem dM_disk_15 : decode tp_bM_disk 15 = .ok (.aload_n 0, 1) := by decide +kernel
theorem dM_disk_16 : decode tp_bM_disk 16 = .ok (.getfield 7, 3) := by decide +kernel
theorem dM_disk_19 : decode tp_bM_disk 19 = .ok (.iload_n 1, 1) := by decide +kernel
theorem dM_disk_20 : decode tp_bM_disk 20 = .ok (.iaload, 1) := by decide +kernel
theorem dM_disk_21 : decode tp_bM_disk 21 = .ok (.ifCond .le 7, 3) := by decide +kernel
theorem dM_disk_24 : decode tp_bM_disk 24 = .ok (.iconst 2, 1) := by decide +kernel
theorem dM_disk_25 : decode tp_bM_disk 25 = .ok (.goto 20, 3) := by decide +kernel
theorem dM_disk_28 : decode tp_bM_disk 28 = .ok (.iload_n 2, 1) := by decide +kernel
theorem dM_disk_29 : decode tp_bM_disk 29 = .ok (.iconst 1, 1) := by decide +kernel
theorem dM_disk_30 : decode tp_bM_disk 30 = .ok (.if_icmp .lt 10, 3) := by decide +kernel
theorem dM_disk_33 : decode tp_bM_disk 33 = .ok (.iload_n 2, 1) := by decide +kernel
theorem dM_disk_34 : decode tp_bM_disk 34 = .ok (.sipush 200, 3) := by decide +kernel
theorem dM_disk_37 : decode tp_bM_disk 37 = .ok (.if_icmp .le 7, 3) := by decide +kernel
theorem dM_disk_40 : decode tp_bM_disk 40 = .ok (.iconst 3, 1) := by decide +kernel
theorem dM_disk_41 : decode tp_bM_disk 41 = .ok (.goto 4, 3) := by decide +kernel
theorem dM_disk_44 : decode tp_bM_disk 44 = .ok (.iconst 0, 1) := by decide +kernel
theorem dM_disk_45 : decode tp_bM_disk 45 = .ok (.putfield 26, 3) := by decide +kernel
theorem dM_disk_48 : decode tp_bM_disk 48 = .ok (.aload_n 0, 1) := by decide +kernel
theorem dM_disk_49 : decode tp_bM_disk 49 = .ok (.getfield 26, 3) := by decide +kernel
theorem dM_disk_52 : decode tp_bM_disk 52 = .ok (.ifCond .ne 17, 3) := by decide +kernel
theorem dM_disk_55 : decode tp_bM_disk 55 = .ok (.aload_n 0, 1) := by decide +kernel
theorem dM_disk_56 : decode tp_bM_disk 56 = .ok (.getfield 7, 3) := by decide +kernel
theorem dM_disk_59 : decode tp_bM_disk 59 = .ok (.iload_n 1, 1) := by decide +kernel
theorem dM_disk_60 : decode tp_bM_disk 60 = .ok (.iload_n 2, 1) := by decide +kernel
theorem dM_disk_61 : decode tp_bM_disk 61 = .ok (.iastore, 1) := by decide +kernel
theorem dM_disk_62 : decode tp_bM_disk 62 = .ok (.aload_n 0, 1) := by decide +kernel
theorem dM_disk_63 : decode tp_bM_disk 63 = .ok (.getfield 13, 3) := by decide +kernel
theorem dM_disk_66 : decode tp_bM_disk 66 = .ok (.iload_n 1, 1) := by decide +kernel
theorem dM_disk_67 : decode tp_bM_disk 67 = .ok (.iconst 0, 1) := by decide +kernel
theorem dM_disk_68 : decode tp_bM_disk 68 = .ok (.bastore, 1) := by decide +kernel
theorem dM_disk_69 : decode tp_bM_disk 69 = .ok (.return_, 1) := by decide +kernel
theorem dM_fail_0 : decode tp_bM_fail 0 = .ok (.aload_n 0, 1) := by decide +kernel
theorem dM_fail_1 : decode tp_bM_fail 1 = .ok (.aload_n 0, 1) := by decide +kernel
theorem dM_fail_2 : decode tp_bM_fail 2 = .ok (.iload_n 1, 1) := by decide +kernel
theorem dM_fail_3 : decode tp_bM_fail 3 = .ok (.invokevirtual 88, 3) := by decide +kernel
theorem dM_fail_6 : decode tp_bM_fail 6 = .ok (.ifCond .eq 7, 3) := by decide +kernel
theorem dM_fail_9 : decode tp_bM_fail 9 = .ok (.iconst 0, 1) := by decide +kernel
theorem dM_fail_10 : decode tp_bM_fail 10 = .ok (.goto 4, 3) := by decide +kernel
theorem dM_fail_13 : decode tp_bM_fail 13 = .ok (.iconst 1, 1) := by decide +kernel
theorem dM_fail_14 : decode tp_bM_fail 14 = .ok (.putfield 26, 3) := by decide +kernel
theorem dM_fail_17 : decode tp_bM_fail 17 = .ok (.aload_n 0, 1) := by decide +kernel
theorem dM_fail_18 : decode tp_bM_fail 18 = .ok (.getfield 26, 3) := by decide +kernel
theorem dM_fail_21 : decode tp_bM_fail 21 = .ok (.ifCond .le 5, 3) := by decide +kernel
theorem dM_fail_24 : decode tp_bM_fail 24 = .ok (.iconst 0, 1) := by decide +kernel
theorem dM_fail_25 : decode tp_bM_fail 25 = .ok (.ireturn, 1) := by decide +kernel
theorem dM_fail_26 : decode tp_bM_fail 26 = .ok (.aload_n 0, 1) := by decide +kernel
theorem dM_fail_27 : decode tp_bM_fail 27 = .ok (.iload_n 1, 1) := by decide +kernel
theorem dM_fail_28 : decode tp_bM_fail 28 = .ok (.invokevirtual 34, 3) := by decide +kernel
theorem dM_fail_31 : decode tp_bM_fail 31 = .ok (.istore_n 2, 1) := by decide +kernel
theorem dM_fail_32 : decode tp_bM_fail 32 = .ok (.iconst 0, 1) := by decide +kernel
theorem dM_fail_33 : decode tp_bM_fail 33 = .ok (.istore_n 3, 1) := by decide +kernel
theorem dM_fail_34 : decode tp_bM_fail 34 = .ok (.iload_n 3, 1) := by decide +kernel
theorem dM_fail_35 : decode tp_bM_fail 35 = .ok (.sipush 400, 3) := by decide +kernel
theorem dM_fail_38 : decode tp_bM_fail 38 = .ok (.if_icmp .ge 43, 3) := by decide +kernel
theorem dM_fail_41 : decode tp_bM_fail 41 = .ok (.aload_n 0, 1) := by decide +kernel
theorem dM_fail_42 : decode tp_bM_fail 42 = .ok (.getfield 20, 3) := by decide +kernel
theorem dM_fail_45 : decode tp_bM_fail 45 = .ok (.iload_n 3, 1) := by decide +kernel
theorem dM_fail_46 : decode tp_bM_fail 46 = .ok (.aload_n 0, 1) := by decide +kernel
theorem dM_fail_47 : decode tp_bM_fail 47 = .ok (.iload_n 3, 1) := by decide +kernel
theorem dM_fail_48 : decode tp_bM_fail 48 = .ok (.iload_n 1, 1) := by decide +kernel
theorem dM_fail_49 : decode tp_bM_fail 49 = .ok (.invokevirtual 30, 3) := by decide +kernel
theorem dM_fail_52 : decode tp_bM_fail 52 = .ok (.ifCond .eq 16, 3) := by decide +kernel
theorem dM_fail_55 : decode tp_bM_fail 55 = .ok (.aload_n 0, 1) := by decide +kernel
theorem dM_fail_56 : decode tp_bM_fail 56 = .ok (.getfield 20, 3) := by decide +kernel
theorem dM_fail_59 : decode tp_bM_fail 59 = .ok (.iload_n 3, 1) := by decide +kernel
theorem dM_fail_60 : decode tp_bM_fail 60 = .ok (.iaload, 1) := by decide +kernel
theorem dM_fail_61 : decode tp_bM_fail 61 = .ok (.iconst 1, 1) := by decide +kernel
theorem dM_fail_62 : decode tp_bM_fail 62 = .ok (.iload_n 1, 1) := by decide +kernel
theorem dM_fail_63 : decode tp_bM_fail 63 = .ok (.ishl, 1) := by decide +kernel
theorem dM_fail_64 : decode tp_bM_fail 64 = .ok (.isub, 1) := by decide +kernel
theorem dM_fail_65 : decode tp_bM_fail 65 = .ok (.goto 9, 3) := by decide +kernel
theorem dM_fail_68 : decode tp_bM_fail 68 = .ok (.aload_n 0, 1) := by decide +kernel
theorem dM_fail_69 : decode tp_bM_fail 69 = .ok (.getfield 20, 3) := by decide +kernel
theorem dM_fail_72 : decode tp_bM_fail 72 = .ok (.iload_n 3, 1) := by decide +kernel
theorem dM_fail_73 : decode tp_bM_fail 73 = .ok (.iaload, 1) := by decide +kernel
theorem dM_fail_74 : decode tp_bM_fail 74 = .ok (.iastore, 1) := by decide +kernel
theorem dM_fail_75 : decode tp_bM_fail 75 = .ok (.iinc 3 1, 3) := by decide +kernel
theorem dM_fail_78 : decode tp_bM_fail 78 = .ok (.goto (-44), 3) := by decide +kernel
theorem dM_fail_81 : decode tp_bM_fail 81 = .ok (.aload_n 0, 1) := by decide +kernel
theorem dM_fail_82 : decode tp_bM_fail 82 = .ok (.getfield 7, 3) := by decide +kernel
theorem dM_fail_85 : decode tp_bM_fail 85 = .ok (.iload_n 1, 1) := by decide +kernel
theorem dM_fail_86 : decode tp_bM_fail 86 = .ok (.iconst 0, 1) := by decide +kernel
theorem dM_fail_87 : decode tp_bM_fail 87 = .ok (.iastore, 1) := by decide +kernel
theorem dM_fail_88 : decode tp_bM_fail 88 = .ok (.iload_n 2, 1) := by decide +kernel
theorem dM_fail_89 : decode tp_bM_fail 89 = .ok (.ireturn, 1) := by decide +kernel
theorem dM_leave_0 : decode tp_bM_leave 0 = .ok (.aload_n 0, 1) := by decide +kernel
theorem dM_leave_1 : decode tp_bM_leave 1 = .ok (.aload_n 0, 1) := by decide +kernel
theorem dM_leave_2 : decode tp_bM_leave 2 = .ok (.iload_n 1, 1) := by decide +kernel
theorem dM_leave_3 : decode tp_bM_leave 3 = .ok (.invokevirtual 88, 3) := by decide +kernel
theorem dM_leave_6 : decode tp_bM_leave 6 = .ok (.ifCond .ne 7, 3) := by decide +kernel
theorem dM_leave_9 : decode tp_bM_leave 9 = .ok (.iconst 1, 1) := by decide +kernel
theorem dM_leave_10 : decode tp_bM_leave 10 = .ok (.goto 47, 3) := by decide +kernel
theorem dM_leave_13 : decode tp_bM_leave 13 = .ok (.aload_n 0, 1) := by decide +kernel
theorem dM_leave_14 : decode tp_bM_leave 14 = .ok (.getfield 13, 3) := by decide +kernel
theorem dM_leave_17 : decode tp_bM_leave 17 = .ok (.iload_n 1, 1) := by decide +kernel
theorem dM_leave_18 : decode tp_bM_leave 18 = .ok (.baload, 1) := by decide +kernel
theorem dM_leave_19 : decode tp_bM_leave 19 = .ok (.ifCond .ne 17, 3) := by decide +kernel
theorem dM_leave_22 : decode tp_bM_leave 22 = .ok (.aload_n 0, 1) := by decide +kernel
theorem dM_leave_23 : decode tp_bM_leave 23 = .ok (.iconst 0, 1) := by decide +kernel
theorem dM_leave_24 : decode tp_bM_leave 24 = .ok (.invokevirtual 48, 3) := by decide +kernel
theorem dM_leave_27 : decode tp_bM_leave 27 = .ok (.aload_n 0, 1) := by decide +kernel
theorem dM_leave_28 : decode tp_bM_leave 28 = .ok (.iconst 1, 1) := by decide +kernel
theorem dM_leave_29 : decode tp_bM_leave 29 = .ok (.invokevirtual 48, 3) := by decide +kernel
theorem dM_leave_32 : decode tp_bM_leave 32 = .ok (.iadd, 1) := by decide +kernel
theorem dM_leave_33 : decode tp_bM_leave 33 = .ok (.ifCond .le 7, 3) := by decide +kernel
theorem dM_leave_36 : decode tp_bM_leave 36 = .ok (.iconst 2, 1) := by decide +kernel
theorem dM_leave_37 : decode tp_bM_leave 37 = .ok (.goto 20, 3) := by decide +kernel
theorem dM_leave_40 : decode tp_bM_leave 40 = .ok (.aload_n 0, 1) := by decide +kernel
theorem dM_leave_41 : decode tp_bM_leave 41 = .ok (.invokevirtual 91, 3) := by decide +kernel
theorem dM_leave_44 : decode tp_bM_leave 44 = .ok (.aload_n 0, 1) := by decide +kernel
theorem dM_leave_45 : decode tp_bM_leave 45 = .ok (.iload_n 1, 1) := by decide +kernel
theorem dM_leave_46 : decode tp_bM_leave 46 = .ok (.invokevirtual 94, 3) := by decide +kernel
theorem dM_leave_49 : decode tp_bM_leave 49 = .ok (.if_icmp .le 7, 3) := by decide +kernel
theorem dM_leave_52 : decode tp_bM_leave 52 = .ok (.iconst 3, 1) := by decide +kernel
theorem dM_leave_53 : decode tp_bM_leave 53 = .ok (.goto 4, 3) := by decide +kernel
theorem dM_leave_56 : decode tp_bM_leave 56 = .ok (.iconst 0, 1) := by decide +kernel
theorem dM_leave_57 : decode tp_bM_leave 57 = .ok (.putfield 26, 3) := by decide +kernel
theorem dM_leave_60 : decode tp_bM_leave 60 = .ok (.aload_n 0, 1) := by decide +kernel
theorem dM_leave_61 : decode tp_bM_leave 61 = .ok (.getfield 26, 3) := by decide +kernel
theorem dM_leave_64 : decode tp_bM_leave 64 = .ok (.ifCond .le 5, 3) := by decide +kernel
theorem dM_leave_67 : decode tp_bM_leave 67 = .ok (.iconst 0, 1) := by decide +kernel
theorem dM_leave_68 : decode tp_bM_leave 68 = .ok (.ireturn, 1) := by decide +kernel
theorem dM_leave_69 : decode tp_bM_leave 69 = .ok (.aload_n 0, 1) := by decide +kernel
theorem dM_leave_70 : decode tp_bM_leave 70 = .ok (.getfield 13, 3) := by decide +kernel
theorem dM_leave_73 : decode tp_bM_leave 73 = .ok (.iload_n 1, 1) := by decide +kernel
theorem dM_leave_74 : decode tp_bM_leave 74 = .ok (.iconst 1, 1) := by decide +kernel
theorem dM_leave_75 : decode tp_bM_leave 75 = .ok (.bastore, 1) := by decide +kernel
theorem dM_leave_76 : decode tp_bM_leave 76 = .ok (.aload_n 0, 1) := by decide +kernel
theorem dM_leave_77 : decode tp_bM_leave 77 = .ok (.iload_n 1, 1) := by decide +kernel
theorem dM_leave_78 : decode tp_bM_leave 78 = .ok (.invokevirtual 34, 3) := by decide +kernel
theorem dM_leave_81 : decode tp_bM_leave 81 = .ok (.istore_n 2, 1) := by decide +kernel
theorem dM_leave_82 : decode tp_bM_leave 82 = .ok (.aload_n 0, 1) := by decide +kernel
theorem dM_leave_83 : decode tp_bM_leave 83 = .ok (.invokevirtual 68, 3) := by decide +kernel
end
section
theorem dM_leave_86 : decode tp_bM_leave 86 = .ok (.iload_n 2, 1) := by decide +kernel
theorem dM_leave_87 : decode tp_bM_leave 87 = .ok (.ireturn, 1) := by decide +kernel
theorem dM_stay_0 : decode tp_bM_stay 0 = .ok (.aload_n 0, 1) := by decide +kernel
theorem dM_stay_1 : decode tp_bM_stay 1 = .ok (.aload_n 0, 1) := by decide +kernel
theorem dM_stay_2 : decode tp_bM_stay 2 = .ok (.iload_n 1, 1) := by decide +kernel
theorem dM_stay_3 : decode tp_bM_stay 3 = .ok (.invokevirtual 88, 3) := by decide +kernel
theorem dM_stay_6 : decode tp_bM_stay 6 = .ok (.ifCond .ne 7, 3) := by decide +kernel
theorem dM_stay_9 : decode tp_bM_stay 9 = .ok (.iconst 1, 1) := by decide +kernel
theorem dM_stay_10 : decode tp_bM_stay 10 = .ok (.goto 17, 3) := by decide +kernel
theorem dM_stay_13 : decode tp_bM_stay 13 = .ok (.aload_n 0, 1) := by decide +kernel
theorem dM_stay_14 : decode tp_bM_stay 14 = .ok (.getfield 13, 3) := by decide +kernel
theorem dM_stay_17 : decode tp_bM_stay 17 = .ok (.iload_n 1, 1) := by decide +kernel
theorem dM_stay_18 : decode tp_bM_stay 18 = .ok (.baload, 1) := by decide +kernel
theorem dM_stay_19 : decode tp_bM_stay 19 = .ok (.ifCond .ne 7, 3) := by decide +kernel
theorem dM_stay_22 : decode tp_bM_stay 22 = .ok (.iconst 2, 1) := by decide +kernel
theorem dM_stay_23 : decode tp_bM_stay 23 = .ok (.goto 4, 3) := by decide +kernel
theorem dM_stay_26 : decode tp_bM_stay 26 = .ok (.iconst 0, 1) := by decide +kernel
theorem dM_stay_27 : decode tp_bM_stay 27 = .ok (.putfield 26, 3) := by decide +kernel
theorem dM_stay_30 : decode tp_bM_stay 30 = .ok (.aload_n 0, 1) := by decide +kernel
theorem dM_stay_31 : decode tp_bM_stay 31 = .ok (.getfield 26, 3) := by decide +kernel
theorem dM_stay_34 : decode tp_bM_stay 34 = .ok (.ifCond .ne 10, 3) := by decide +kernel
theorem dM_stay_37 : decode tp_bM_stay 37 = .ok (.aload_n 0, 1) := by decide +kernel
theorem dM_stay_38 : decode tp_bM_stay 38 = .ok (.getfield 13, 3) := by decide +kernel
theorem dM_stay_41 : decode tp_bM_stay 41 = .ok (.iload_n 1, 1) := by decide +kernel
theorem dM_stay_42 : decode tp_bM_stay 42 = .ok (.iconst 0, 1) := by decide +kernel
theorem dM_stay_43 : decode tp_bM_stay 43 = .ok (.bastore, 1) := by decide +kernel
theorem dM_stay_44 : decode tp_bM_stay 44 = .ok (.return_, 1) := by decide +kernel
theorem dM_write_0 : decode tp_bM_write 0 = .ok (.aload_n 0, 1) := by decide +kernel
theorem dM_write_1 : decode tp_bM_write 1 = .ok (.aload_n 0, 1) := by decide +kernel
theorem dM_write_2 : decode tp_bM_write 2 = .ok (.iload_n 1, 1) := by decide +kernel
theorem dM_write_3 : decode tp_bM_write 3 = .ok (.invokevirtual 65, 3) := by decide +kernel
theorem dM_write_6 : decode tp_bM_write 6 = .ok (.ifCond .eq 12, 3) := by decide +kernel
theorem dM_write_9 : decode tp_bM_write 9 = .ok (.iload_n 2, 1) := by decide +kernel
theorem dM_write_10 : decode tp_bM_write 10 = .ok (.ifCond .lt 8, 3) := by decide +kernel
theorem dM_write_13 : decode tp_bM_write 13 = .ok (.iload_n 2, 1) := by decide +kernel
theorem dM_write_14 : decode tp_bM_write 14 = .ok (.iconst 3, 1) := by decide +kernel
theorem dM_write_15 : decode tp_bM_write 15 = .ok (.if_icmp .le 7, 3) := by decide +kernel
theorem dM_write_18 : decode tp_bM_write 18 = .ok (.iconst 1, 1) := by decide +kernel
theorem dM_write_19 : decode tp_bM_write 19 = .ok (.goto 17, 3) := by decide +kernel
theorem dM_write_22 : decode tp_bM_write 22 = .ok (.aload_n 0, 1) := by decide +kernel
theorem dM_write_23 : decode tp_bM_write 23 = .ok (.getfield 20, 3) := by decide +kernel
theorem dM_write_26 : decode tp_bM_write 26 = .ok (.iload_n 1, 1) := by decide +kernel
theorem dM_write_27 : decode tp_bM_write 27 = .ok (.iaload, 1) := by decide +kernel
theorem dM_write_28 : decode tp_bM_write 28 = .ok (.ifCond .ne 7, 3) := by decide +kernel
theorem dM_write_31 : decode tp_bM_write 31 = .ok (.iconst 2, 1) := by decide +kernel
theorem dM_write_32 : decode tp_bM_write 32 = .ok (.goto 4, 3) := by decide +kernel
theorem dM_write_35 : decode tp_bM_write 35 = .ok (.iconst 0, 1) := by decide +kernel
theorem dM_write_36 : decode tp_bM_write 36 = .ok (.putfield 26, 3) := by decide +kernel
theorem dM_write_39 : decode tp_bM_write 39 = .ok (.aload_n 0, 1) := by decide +kernel
theorem dM_write_40 : decode tp_bM_write 40 = .ok (.getfield 26, 3) := by decide +kernel
theorem dM_write_43 : decode tp_bM_write 43 = .ok (.ifCond .ne 14, 3) := by decide +kernel
theorem dM_write_46 : decode tp_bM_write 46 = .ok (.aload_n 0, 1) := by decide +kernel
theorem dM_write_47 : decode tp_bM_write 47 = .ok (.getfield 23, 3) := by decide +kernel
theorem dM_write_50 : decode tp_bM_write 50 = .ok (.iconst 4, 1) := by decide +kernel
theorem dM_write_51 : decode tp_bM_write 51 = .ok (.iload_n 1, 1) := by decide +kernel
theorem dM_write_52 : decode tp_bM_write 52 = .ok (.imul, 1) := by decide +kernel
theorem dM_write_53 : decode tp_bM_write 53 = .ok (.iload_n 2, 1) := by decide +kernel
theorem dM_write_54 : decode tp_bM_write 54 = .ok (.iadd, 1) := by decide +kernel
theorem dM_write_55 : decode tp_bM_write 55 = .ok (.iload_n 3, 1) := by decide +kernel
theorem dM_write_56 : decode tp_bM_write 56 = .ok (.iastore, 1) := by decide +kernel
theorem dM_write_57 : decode tp_bM_write 57 = .ok (.return_, 1) := by decide +kernel
theorem dM_read_0 : decode tp_bM_read 0 = .ok (.aload_n 0, 1) := by decide +kernel
theorem dM_read_1 : decode tp_bM_read 1 = .ok (.aload_n 0, 1) := by decide +kernel
theorem dM_read_2 : decode tp_bM_read 2 = .ok (.iload_n 1, 1) := by decide +kernel
theorem dM_read_3 : decode tp_bM_read 3 = .ok (.invokevirtual 65, 3) := by decide +kernel
theorem dM_read_6 : decode tp_bM_read 6 = .ok (.ifCond .eq 12, 3) := by decide +kernel
theorem dM_read_9 : decode tp_bM_read 9 = .ok (.iload_n 2, 1) := by decide +kernel
theorem dM_read_10 : decode tp_bM_read 10 = .ok (.ifCond .lt 8, 3) := by decide +kernel
theorem dM_read_13 : decode tp_bM_read 13 = .ok (.iload_n 2, 1) := by decide +kernel
theorem dM_read_14 : decode tp_bM_read 14 = .ok (.iconst 3, 1) := by decide +kernel
theorem dM_read_15 : decode tp_bM_read 15 = .ok (.if_icmp .le 7, 3) := by decide +kernel
theorem dM_read_18 : decode tp_bM_read 18 = .ok (.iconst 1, 1) := by decide +kernel
theorem dM_read_19 : decode tp_bM_read 19 = .ok (.goto 17, 3) := by decide +kernel
theorem dM_read_22 : decode tp_bM_read 22 = .ok (.aload_n 0, 1) := by decide +kernel
theorem dM_read_23 : decode tp_bM_read 23 = .ok (.getfield 20, 3) := by decide +kernel
theorem dM_read_26 : decode tp_bM_read 26 = .ok (.iload_n 1, 1) := by decide +kernel
theorem dM_read_27 : decode tp_bM_read 27 = .ok (.iaload, 1) := by decide +kernel
theorem dM_read_28 : decode tp_bM_read 28 = .ok (.ifCond .ne 7, 3) := by decide +kernel
theorem dM_read_31 : decode tp_bM_read 31 = .ok (.iconst 2, 1) := by decide +kernel
theorem dM_read_32 : decode tp_bM_read 32 = .ok (.goto 4, 3) := by decide +kernel
theorem dM_read_35 : decode tp_bM_read 35 = .ok (.iconst 0, 1) := by decide +kernel
theorem dM_read_36 : decode tp_bM_read 36 = .ok (.putfield 26, 3) := by decide +kernel
theorem dM_read_39 : decode tp_bM_read 39 = .ok (.aload_n 0, 1) := by decide +kernel
theorem dM_read_40 : decode tp_bM_read 40 = .ok (.getfield 26, 3) := by decide +kernel
theorem dM_read_43 : decode tp_bM_read 43 = .ok (.ifCond .le 7, 3) := by decide +kernel
theorem dM_read_46 : decode tp_bM_read 46 = .ok (.iconst 0, 1) := by decide +kernel
theorem dM_read_47 : decode tp_bM_read 47 = .ok (.goto 13, 3) := by decide +kernel
theorem dM_read_50 : decode tp_bM_read 50 = .ok (.aload_n 0, 1) := by decide +kernel
theorem dM_read_51 : decode tp_bM_read 51 = .ok (.getfield 23, 3) := by decide +kernel
theorem dM_read_54 : decode tp_bM_read 54 = .ok (.iconst 4, 1) := by decide +kernel
theorem dM_read_55 : decode tp_bM_read 55 = .ok (.iload_n 1, 1) := by decide +kernel
theorem dM_read_56 : decode tp_bM_read 56 = .ok (.imul, 1) := by decide +kernel
theorem dM_read_57 : decode tp_bM_read 57 = .ok (.iload_n 2, 1) := by decide +kernel
theorem dM_read_58 : decode tp_bM_read 58 = .ok (.iadd, 1) := by decide +kernel
theorem dM_read_59 : decode tp_bM_read 59 = .ok (.iaload, 1) := by decide +kernel
theorem dM_read_60 : decode tp_bM_read 60 = .ok (.ireturn, 1) := by decide +kernel
theorem dM_place_0 : decode tp_bM_place 0 = .ok (.aload_n 0, 1) := by decide +kernel
theorem dM_place_1 : decode tp_bM_place 1 = .ok (.aload_n 0, 1) := by decide +kernel
theorem dM_place_2 : decode tp_bM_place 2 = .ok (.iload_n 1, 1) := by decide +kernel
theorem dM_place_3 : decode tp_bM_place 3 = .ok (.invokevirtual 65, 3) := by decide +kernel
theorem dM_place_6 : decode tp_bM_place 6 = .ok (.ifCond .eq 7, 3) := by decide +kernel
theorem dM_place_9 : decode tp_bM_place 9 = .ok (.iconst 0, 1) := by decide +kernel
theorem dM_place_10 : decode tp_bM_place 10 = .ok (.goto 4, 3) := by decide +kernel
theorem dM_place_13 : decode tp_bM_place 13 = .ok (.iconst 1, 1) := by decide +kernel
theorem dM_place_14 : decode tp_bM_place 14 = .ok (.putfield 26, 3) := by decide +kernel
theorem dM_place_17 : decode tp_bM_place 17 = .ok (.aload_n 0, 1) := by decide +kernel
theorem dM_place_18 : decode tp_bM_place 18 = .ok (.getfield 26, 3) := by decide +kernel
theorem dM_place_21 : decode tp_bM_place 21 = .ok (.ifCond .le 5, 3) := by decide +kernel
theorem dM_place_24 : decode tp_bM_place 24 = .ok (.iconst 0, 1) := by decide +kernel
theorem dM_place_25 : decode tp_bM_place 25 = .ok (.ireturn, 1) := by decide +kernel
theorem dM_place_26 : decode tp_bM_place 26 = .ok (.iconst (-1), 1) := by decide +kernel
theorem dM_place_27 : decode tp_bM_place 27 = .ok (.istore_n 3, 1) := by decide +kernel
theorem dM_place_28 : decode tp_bM_place 28 = .ok (.iconst (-1), 1) := by decide +kernel
theorem dM_place_29 : decode tp_bM_place 29 = .ok (.istore 4, 2) := by decide +kernel
theorem dM_place_31 : decode tp_bM_place 31 = .ok (.iconst 0, 1) := by decide +kernel
theorem dM_place_32 : decode tp_bM_place 32 = .ok (.istore 5, 2) := by decide +kernel
theorem dM_place_34 : decode tp_bM_place 34 = .ok (.iload 5, 2) := by decide +kernel
theorem dM_place_36 : decode tp_bM_place 36 = .ok (.bipush 12, 2) := by decide +kernel
theorem dM_place_38 : decode tp_bM_place 38 = .ok (.if_icmp .ge 43, 3) := by decide +kernel
theorem dM_place_41 : decode tp_bM_place 41 = .ok (.aload_n 0, 1) := by decide +kernel
theorem dM_place_42 : decode tp_bM_place 42 = .ok (.iload_n 1, 1) := by decide +kernel
theorem dM_place_43 : decode tp_bM_place 43 = .ok (.iload 5, 2) := by decide +kernel
theorem dM_place_45 : decode tp_bM_place 45 = .ok (.invokevirtual 30, 3) := by decide +kernel
theorem dM_place_48 : decode tp_bM_place 48 = .ok (.ifCond .eq 27, 3) := by decide +kernel
theorem dM_place_51 : decode tp_bM_place 51 = .ok (.iload_n 3, 1) := by decide +kernel
theorem dM_place_52 : decode tp_bM_place 52 = .ok (.ifCond .ge 8, 3) := by decide +kernel
theorem dM_place_55 : decode tp_bM_place 55 = .ok (.iload 4, 2) := by decide +kernel
theorem dM_place_57 : decode tp_bM_place 57 = .ok (.goto 5, 3) := by decide +kernel
theorem dM_place_60 : decode tp_bM_place 60 = .ok (.iload 5, 2) := by decide +kernel
theorem dM_place_62 : decode tp_bM_place 62 = .ok (.istore 4, 2) := by decide +kernel
theorem dM_place_64 : decode tp_bM_place 64 = .ok (.iload_n 3, 1) := by decide +kernel
theorem dM_place_65 : decode tp_bM_place 65 = .ok (.ifCond .ge 8, 3) := by decide +kernel
theorem dM_place_68 : decode tp_bM_place 68 = .ok (.iload 5, 2) := by decide +kernel
theorem dM_place_70 : decode tp_bM_place 70 = .ok (.goto 4, 3) := by decide +kernel
theorem dM_place_73 : decode tp_bM_place 73 = .ok (.iload_n 3, 1) := by decide +kernel
theorem dM_place_74 : decode tp_bM_place 74 = .ok (.istore_n 3, 1) := by decide +kernel
theorem dM_place_75 : decode tp_bM_place 75 = .ok (.iinc 5 1, 3) := by decide +kernel
theorem dM_place_78 : decode tp_bM_place 78 = .ok (.goto (-44), 3) := by decide +kernel
theorem dM_place_81 : decode tp_bM_place 81 = .ok (.iload_n 2, 1) := by decide +kernel
theorem dM_place_82 : decode tp_bM_place 82 = .ok (.ifCond .eq 8, 3) := by decide +kernel
theorem dM_place_85 : decode tp_bM_place 85 = .ok (.iload 4, 2) := by decide +kernel
theorem dM_place_87 : decode tp_bM_place 87 = .ok (.goto 4, 3) := by decide +kernel
theorem dM_place_90 : decode tp_bM_place 90 = .ok (.iload_n 3, 1) := by decide +kernel
theorem dM_place_91 : decode tp_bM_place 91 = .ok (.ireturn, 1) := by decide +kernel
theorem dM_about_0 : decode tp_bM_about 0 = .ok (.aload_n 0, 1) := by decide +kernel
theorem dM_about_1 : decode tp_bM_about 1 = .ok (.aload_n 0, 1) := by decide +kernel
theorem dM_about_2 : decode tp_bM_about 2 = .ok (.iload_n 1, 1) := by decide +kernel
theorem dM_about_3 : decode tp_bM_about 3 = .ok (.invokevirtual 88, 3) := by decide +kernel
theorem dM_about_6 : decode tp_bM_about 6 = .ok (.ifCond .ne 7, 3) := by decide +kernel
theorem dM_about_9 : decode tp_bM_about 9 = .ok (.iconst 1, 1) := by decide +kernel
theorem dM_about_10 : decode tp_bM_about 10 = .ok (.goto 17, 3) := by decide +kernel
theorem dM_about_13 : decode tp_bM_about 13 = .ok (.iload_n 2, 1) := by decide +kernel
theorem dM_about_14 : decode tp_bM_about 14 = .ok (.ifCond .lt 8, 3) := by decide +kernel
theorem dM_about_17 : decode tp_bM_about 17 = .ok (.iload_n 2, 1) := by decide +kernel
theorem dM_about_18 : decode tp_bM_about 18 = .ok (.iconst 3, 1) := by decide +kernel
theorem dM_about_19 : decode tp_bM_about 19 = .ok (.if_icmp .le 7, 3) := by decide +kernel
theorem dM_about_22 : decode tp_bM_about 22 = .ok (.iconst 2, 1) := by decide +kernel
theorem dM_about_23 : decode tp_bM_about 23 = .ok (.goto 4, 3) := by decide +kernel
theorem dM_about_26 : decode tp_bM_about 26 = .ok (.iconst 0, 1) := by decide +kernel
theorem dM_about_27 : decode tp_bM_about 27 = .ok (.putfield 26, 3) := by decide +kernel
theorem dM_about_30 : decode tp_bM_about 30 = .ok (.aload_n 0, 1) := by decide +kernel
theorem dM_about_31 : decode tp_bM_about 31 = .ok (.getfield 26, 3) := by decide +kernel
theorem dM_about_34 : decode tp_bM_about 34 = .ok (.ifCond .le 5, 3) := by decide +kernel
theorem dM_about_37 : decode tp_bM_about 37 = .ok (.iconst 0, 1) := by decide +kernel
theorem dM_about_38 : decode tp_bM_about 38 = .ok (.ireturn, 1) := by decide +kernel
theorem dM_about_39 : decode tp_bM_about 39 = .ok (.iload_n 2, 1) := by decide +kernel
theorem dM_about_40 : decode tp_bM_about 40 = .ok (.iconst 3, 1) := by decide +kernel
theorem dM_about_41 : decode tp_bM_about 41 = .ok (.if_icmp .ge 44, 3) := by decide +kernel
theorem dM_about_44 : decode tp_bM_about 44 = .ok (.iload_n 2, 1) := by decide +kernel
theorem dM_about_45 : decode tp_bM_about 45 = .ok (.ifCond .ne 12, 3) := by decide +kernel
theorem dM_about_48 : decode tp_bM_about 48 = .ok (.aload_n 0, 1) := by decide +kernel
theorem dM_about_49 : decode tp_bM_about 49 = .ok (.getfield 7, 3) := by decide +kernel
theorem dM_about_52 : decode tp_bM_about 52 = .ok (.iload_n 1, 1) := by decide +kernel
theorem dM_about_53 : decode tp_bM_about 53 = .ok (.iaload, 1) := by decide +kernel
theorem dM_about_54 : decode tp_bM_about 54 = .ok (.goto 30, 3) := by decide +kernel
theorem dM_about_57 : decode tp_bM_about 57 = .ok (.iload_n 2, 1) := by decide +kernel
theorem dM_about_58 : decode tp_bM_about 58 = .ok (.iconst 1, 1) := by decide +kernel
theorem dM_about_59 : decode tp_bM_about 59 = .ok (.if_icmp .ne 11, 3) := by decide +kernel
theorem dM_about_62 : decode tp_bM_about 62 = .ok (.aload_n 0, 1) := by decide +kernel
theorem dM_about_63 : decode tp_bM_about 63 = .ok (.iload_n 1, 1) := by decide +kernel
theorem dM_about_64 : decode tp_bM_about 64 = .ok (.invokevirtual 42, 3) := by decide +kernel
theorem dM_about_67 : decode tp_bM_about 67 = .ok (.goto 17, 3) := by decide +kernel
theorem dM_about_70 : decode tp_bM_about 70 = .ok (.aload_n 0, 1) := by decide +kernel
theorem dM_about_71 : decode tp_bM_about 71 = .ok (.getfield 13, 3) := by decide +kernel
theorem dM_about_74 : decode tp_bM_about 74 = .ok (.iload_n 1, 1) := by decide +kernel
theorem dM_about_75 : decode tp_bM_about 75 = .ok (.baload, 1) := by decide +kernel
theorem dM_about_76 : decode tp_bM_about 76 = .ok (.ifCond .eq 7, 3) := by decide +kernel
theorem dM_about_79 : decode tp_bM_about 79 = .ok (.iconst 1, 1) := by decide +kernel
theorem dM_about_80 : decode tp_bM_about 80 = .ok (.goto 4, 3) := by decide +kernel
theorem dM_about_83 : decode tp_bM_about 83 = .ok (.iconst 0, 1) := by decide +kernel
theorem dM_about_84 : decode tp_bM_about 84 = .ok (.ireturn, 1) := by decide +kernel
theorem dM_about_85 : decode tp_bM_about 85 = .ok (.iconst 0, 1) := by decide +kernel
theorem dM_about_86 : decode tp_bM_about 86 = .ok (.istore_n 3, 1) := by decide +kernel
theorem dM_about_87 : decode tp_bM_about 87 = .ok (.iload_n 3, 1) := by decide +kernel
theorem dM_about_88 : decode tp_bM_about 88 = .ok (.sipush 400, 3) := by decide +kernel
theorem dM_about_91 : decode tp_bM_about 91 = .ok (.if_icmp .ge 20, 3) := by decide +kernel
theorem dM_about_94 : decode tp_bM_about 94 = .ok (.aload_n 0, 1) := by decide +kernel
theorem dM_about_95 : decode tp_bM_about 95 = .ok (.iload_n 3, 1) := by decide +kernel
theorem dM_about_96 : decode tp_bM_about 96 = .ok (.iload_n 1, 1) := by decide +kernel
theorem dM_about_97 : decode tp_bM_about 97 = .ok (.invokevirtual 30, 3) := by decide +kernel
theorem dM_about_100 : decode tp_bM_about 100 = .ok (.ifCond .eq 5, 3) := by decide +kernel
theorem dM_about_103 : decode tp_bM_about 103 = .ok (.iload_n 3, 1) := by decide +kernel
theorem dM_about_104 : decode tp_bM_about 104 = .ok (.ireturn, 1) := by decide +kernel
theorem dM_about_105 : decode tp_bM_about 105 = .ok (.iinc 3 1, 3) := by decide +kernel
theorem dM_about_108 : decode tp_bM_about 108 = .ok (.goto (-21), 3) := by decide +kernel
theorem dM_about_111 : decode tp_bM_about 111 = .ok (.iconst (-1), 1) := by decide +kernel
theorem dM_about_112 : decode tp_bM_about 112 = .ok (.ireturn, 1) := by decide +kernel
theorem dM_count_0 : decode tp_bM_count 0 = .ok (.aload_n 0, 1) := by decide +kernel
theorem dM_count_1 : decode tp_bM_count 1 = .ok (.iload_n 1, 1) := by decide +kernel
theorem dM_count_2 : decode tp_bM_count 2 = .ok (.ifCond .lt 13, 3) := by decide +kernel
theorem dM_count_5 : decode tp_bM_count 5 = .ok (.iload_n 1, 1) := by decide +kernel
theorem dM_count_6 : decode tp_bM_count 6 = .ok (.bipush 6, 2) := by decide +kernel
theorem dM_count_8 : decode tp_bM_count 8 = .ok (.if_icmp .gt 7, 3) := by decide +kernel
theorem dM_count_11 : decode tp_bM_count 11 = .ok (.iconst 0, 1) := by decide +kernel
theorem dM_count_12 : decode tp_bM_count 12 = .ok (.goto 4, 3) := by decide +kernel
theorem dM_count_15 : decode tp_bM_count 15 = .ok (.iconst 1, 1) := by decide +kernel
theorem dM_count_16 : decode tp_bM_count 16 = .ok (.putfield 26, 3) := by decide +kernel
theorem dM_count_19 : decode tp_bM_count 19 = .ok (.aload_n 0, 1) := by decide +kernel
theorem dM_count_20 : decode tp_bM_count 20 = .ok (.getfield 26, 3) := by decide +kernel
theorem dM_count_23 : decode tp_bM_count 23 = .ok (.ifCond .le 5, 3) := by decide +kernel
theorem dM_count_26 : decode tp_bM_count 26 = .ok (.iconst 0, 1) := by decide +kernel
theorem dM_count_27 : decode tp_bM_count 27 = .ok (.ireturn, 1) := by decide +kernel
theorem dM_count_28 : decode tp_bM_count 28 = .ok (.iconst 0, 1) := by decide +kernel
theorem dM_count_29 : decode tp_bM_count 29 = .ok (.istore_n 2, 1) := by decide +kernel
theorem dM_count_30 : decode tp_bM_count 30 = .ok (.iconst 0, 1) := by decide +kernel
theorem dM_count_31 : decode tp_bM_count 31 = .ok (.istore_n 3, 1) := by decide +kernel
theorem dM_count_32 : decode tp_bM_count 32 = .ok (.iconst 0, 1) := by decide +kernel
theorem dM_count_33 : decode tp_bM_count 33 = .ok (.istore 4, 2) := by decide +kernel
theorem dM_count_35 : decode tp_bM_count 35 = .ok (.iload 4, 2) := by decide +kernel
theorem dM_count_37 : decode tp_bM_count 37 = .ok (.bipush 12, 2) := by decide +kernel
theorem dM_count_39 : decode tp_bM_count 39 = .ok (.if_icmp .ge 60, 3) := by decide +kernel
theorem dM_count_42 : decode tp_bM_count 42 = .ok (.aload_n 0, 1) := by decide +kernel
theorem dM_count_43 : decode tp_bM_count 43 = .ok (.getfield 7, 3) := by decide +kernel
theorem dM_count_46 : decode tp_bM_count 46 = .ok (.iload 4, 2) := by decide +kernel
theorem dM_count_48 : decode tp_bM_count 48 = .ok (.iaload, 1) := by decide +kernel
theorem dM_count_49 : decode tp_bM_count 49 = .ok (.ifCond .le 9, 3) := by decide +kernel
theorem dM_count_52 : decode tp_bM_count 52 = .ok (.iload_n 2, 1) := by decide +kernel
theorem dM_count_53 : decode tp_bM_count 53 = .ok (.iconst 1, 1) := by decide +kernel
theorem dM_count_54 : decode tp_bM_count 54 = .ok (.iadd, 1) := by decide +kernel
theorem dM_count_55 : decode tp_bM_count 55 = .ok (.goto 4, 3) := by decide +kernel
theorem dM_count_58 : decode tp_bM_count 58 = .ok (.iload_n 2, 1) := by decide +kernel
theorem dM_count_59 : decode tp_bM_count 59 = .ok (.istore_n 2, 1) := by decide +kernel
theorem dM_count_60 : decode tp_bM_count 60 = .ok (.aload_n 0, 1) := by decide +kernel
theorem dM_count_61 : decode tp_bM_count 61 = .ok (.getfield 7, 3) := by decide +kernel
theorem dM_count_64 : decode tp_bM_count 64 = .ok (.iload 4, 2) := by decide +kernel
theorem dM_count_66 : decode tp_bM_count 66 = .ok (.iaload, 1) := by decide +kernel
theorem dM_count_67 : decode tp_bM_count 67 = .ok (.ifCond .le 24, 3) := by decide +kernel
theorem dM_count_70 : decode tp_bM_count 70 = .ok (.aload_n 0, 1) := by decide +kernel
theorem dM_count_71 : decode tp_bM_count 71 = .ok (.getfield 13, 3) := by decide +kernel
theorem dM_count_74 : decode tp_bM_count 74 = .ok (.iload 4, 2) := by decide +kernel
theorem dM_count_76 : decode tp_bM_count 76 = .ok (.baload, 1) := by decide +kernel
theorem dM_count_77 : decode tp_bM_count 77 = .ok (.ifCond .eq 14, 3) := by decide +kernel
theorem dM_count_80 : decode tp_bM_count 80 = .ok (.iload_n 3, 1) := by decide +kernel
theorem dM_count_81 : decode tp_bM_count 81 = .ok (.aload_n 0, 1) := by decide +kernel
theorem dM_count_82 : decode tp_bM_count 82 = .ok (.iload 4, 2) := by decide +kernel
theorem dM_count_84 : decode tp_bM_count 84 = .ok (.invokevirtual 34, 3) := by decide +kernel
theorem dM_count_87 : decode tp_bM_count 87 = .ok (.iadd, 1) := by decide +kernel
theorem dM_count_88 : decode tp_bM_count 88 = .ok (.goto 4, 3) := by decide +kernel
theorem dM_count_91 : decode tp_bM_count 91 = .ok (.iload_n 3, 1) := by decide +kernel
theorem dM_count_92 : decode tp_bM_count 92 = .ok (.istore_n 3, 1) := by decide +kernel
theorem dM_count_93 : decode tp_bM_count 93 = .ok (.iinc 4 1, 3) := by decide +kernel
theorem dM_count_96 : decode tp_bM_count 96 = .ok (.goto (-61), 3) := by decide +kernel
theorem dM_count_99 : decode tp_bM_count 99 = .ok (.iload_n 1, 1) := by decide +kernel
theorem dM_count_100 : decode tp_bM_count 100 = .ok (.ifCond .ne 7, 3) := by decide +kernel
theorem dM_count_103 : decode tp_bM_count 103 = .ok (.iload_n 2, 1) := by decide +kernel
theorem dM_count_104 : decode tp_bM_count 104 = .ok (.goto 67, 3) := by decide +kernel
theorem dM_count_107 : decode tp_bM_count 107 = .ok (.iload_n 1, 1) := by decide +kernel
theorem dM_count_108 : decode tp_bM_count 108 = .ok (.iconst 1, 1) := by decide +kernel
theorem dM_count_109 : decode tp_bM_count 109 = .ok (.if_icmp .ne 10, 3) := by decide +kernel
theorem dM_count_112 : decode tp_bM_count 112 = .ok (.aload_n 0, 1) := by decide +kernel
theorem dM_count_113 : decode tp_bM_count 113 = .ok (.invokevirtual 91, 3) := by decide +kernel
theorem dM_count_116 : decode tp_bM_count 116 = .ok (.goto 55, 3) := by decide +kernel
theorem dM_count_119 : decode tp_bM_count 119 = .ok (.iload_n 1, 1) := by decide +kernel
theorem dM_count_120 : decode tp_bM_count 120 = .ok (.iconst 2, 1) := by decide +kernel
theorem dM_count_121 : decode tp_bM_count 121 = .ok (.if_icmp .ne 11, 3) := by decide +kernel
theorem dM_count_124 : decode tp_bM_count 124 = .ok (.aload_n 0, 1) := by decide +kernel
theorem dM_count_125 : decode tp_bM_count 125 = .ok (.iconst (-1), 1) := by decide +kernel
theorem dM_count_126 : decode tp_bM_count 126 = .ok (.invokevirtual 94, 3) := by decide +kernel
theorem dM_count_129 : decode tp_bM_count 129 = .ok (.goto 42, 3) := by decide +kernel
theorem dM_count_132 : decode tp_bM_count 132 = .ok (.iload_n 1, 1) := by decide +kernel
theorem dM_count_133 : decode tp_bM_count 133 = .ok (.iconst 3, 1) := by decide +kernel
theorem dM_count_134 : decode tp_bM_count 134 = .ok (.if_icmp .ne 11, 3) := by decide +kernel
theorem dM_count_137 : decode tp_bM_count 137 = .ok (.aload_n 0, 1) := by decide +kernel
theorem dM_count_138 : decode tp_bM_count 138 = .ok (.iconst 1, 1) := by decide +kernel
theorem dM_count_139 : decode tp_bM_count 139 = .ok (.invokevirtual 48, 3) := by decide +kernel
theorem dM_count_142 : decode tp_bM_count 142 = .ok (.goto 29, 3) := by decide +kernel
theorem dM_count_145 : decode tp_bM_count 145 = .ok (.iload_n 1, 1) := by decide +kernel
theorem dM_count_146 : decode tp_bM_count 146 = .ok (.iconst 4, 1) := by decide +kernel
theorem dM_count_147 : decode tp_bM_count 147 = .ok (.if_icmp .ne 11, 3) := by decide +kernel
theorem dM_count_150 : decode tp_bM_count 150 = .ok (.aload_n 0, 1) := by decide +kernel
theorem dM_count_151 : decode tp_bM_count 151 = .ok (.iconst 0, 1) := by decide +kernel
theorem dM_count_152 : decode tp_bM_count 152 = .ok (.invokevirtual 48, 3) := by decide +kernel
theorem dM_count_155 : decode tp_bM_count 155 = .ok (.goto 16, 3) := by decide +kernel
theorem dM_count_158 : decode tp_bM_count 158 = .ok (.iload_n 1, 1) := by decide +kernel
theorem dM_count_159 : decode tp_bM_count 159 = .ok (.iconst 5, 1) := by decide +kernel
theorem dM_count_160 : decode tp_bM_count 160 = .ok (.if_icmp .ne 7, 3) := by decide +kernel
theorem dM_count_163 : decode tp_bM_count 163 = .ok (.iload_n 3, 1) := by decide +kernel
theorem dM_count_164 : decode tp_bM_count 164 = .ok (.goto 7, 3) := by decide +kernel
theorem dM_count_167 : decode tp_bM_count 167 = .ok (.aload_n 0, 1) := by decide +kernel
theorem dM_count_168 : decode tp_bM_count 168 = .ok (.getfield 51, 3) := by decide +kernel
end
section
theorem dM_count_171 : decode tp_bM_count 171 = .ok (.ireturn, 1) := by decide +kernel
end
section
theorem dL_disk_0 : decode tp_bL_disk 0 = .ok (.aload_n 0, 1) := by decide +kernel
theorem dL_disk_1 : decode tp_bL_disk 1 = .ok (.iload_n 1, 1) := by decide +kernel
theorem dL_disk_2 : decode tp_bL_disk 2 = .ok (.iload_n 2, 1) := by decide +kernel
theorem dL_disk_3 : decode tp_bL_disk 3 = .ok (.invokevirtual 7, 3) := by decide +kernel
theorem dL_disk_6 : decode tp_bL_disk 6 = .ok (.goto 12, 3) := by decide +kernel
theorem dL_disk_9 : decode tp_bL_disk 9 = .ok (.astore_n 3, 1) := by decide +kernel
theorem dL_disk_10 : decode tp_bL_disk 10 = .ok (.iconst 1, 1) := by decide +kernel
theorem dL_disk_11 : decode tp_bL_disk 11 = .ok (.ireturn, 1) := by decide +kernel
theorem dL_disk_12 : decode tp_bL_disk 12 = .ok (.astore_n 3, 1) := by decide +kernel
theorem dL_disk_13 : decode tp_bL_disk 13 = .ok (.iconst 2, 1) := by decide +kernel
theorem dL_disk_14 : decode tp_bL_disk 14 = .ok (.ireturn, 1) := by decide +kernel
theorem dL_disk_15 : decode tp_bL_disk 15 = .ok (.astore_n 3, 1) := by decide +kernel
theorem dL_disk_16 : decode tp_bL_disk 16 = .ok (.iconst 3, 1) := by decide +kernel
theorem dL_disk_17 : decode tp_bL_disk 17 = .ok (.ireturn, 1) := by decide +kernel
theorem dL_disk_18 : decode tp_bL_disk 18 = .ok (.iconst 0, 1) := by decide +kernel
theorem dL_disk_19 : decode tp_bL_disk 19 = .ok (.ireturn, 1) := by decide +kernel
theorem dL_chunk_0 : decode tp_bL_chunk 0 = .ok (.aload_n 1, 1) := by decide +kernel
theorem dL_chunk_1 : decode tp_bL_chunk 1 = .ok (.iconst 0, 1) := by decide +kernel
theorem dL_chunk_2 : decode tp_bL_chunk 2 = .ok (.aload_n 0, 1) := by decide +kernel
theorem dL_chunk_3 : decode tp_bL_chunk 3 = .ok (.invokevirtual 19, 3) := by decide +kernel
theorem dL_chunk_6 : decode tp_bL_chunk 6 = .ok (.i2l, 1) := by decide +kernel
theorem dL_chunk_7 : decode tp_bL_chunk 7 = .ok (.lastore, 1) := by decide +kernel
theorem dL_chunk_8 : decode tp_bL_chunk 8 = .ok (.goto 6, 3) := by decide +kernel
theorem dL_chunk_11 : decode tp_bL_chunk 11 = .ok (.astore_n 2, 1) := by decide +kernel
theorem dL_chunk_12 : decode tp_bL_chunk 12 = .ok (.iconst 1, 1) := by decide +kernel
theorem dL_chunk_13 : decode tp_bL_chunk 13 = .ok (.ireturn, 1) := by decide +kernel
theorem dL_chunk_14 : decode tp_bL_chunk 14 = .ok (.iconst 0, 1) := by decide +kernel
theorem dL_chunk_15 : decode tp_bL_chunk 15 = .ok (.ireturn, 1) := by decide +kernel
theorem dL_chunks_0 : decode tp_bL_chunks 0 = .ok (.aload_n 2, 1) := by decide +kernel
theorem dL_chunks_1 : decode tp_bL_chunks 1 = .ok (.iconst 0, 1) := by decide +kernel
theorem dL_chunks_2 : decode tp_bL_chunks 2 = .ok (.aload_n 0, 1) := by decide +kernel
theorem dL_chunks_3 : decode tp_bL_chunks 3 = .ok (.iload_n 1, 1) := by decide +kernel
theorem dL_chunks_4 : decode tp_bL_chunks 4 = .ok (.invokevirtual 25, 3) := by decide +kernel
theorem dL_chunks_7 : decode tp_bL_chunks 7 = .ok (.i2l, 1) := by decide +kernel
theorem dL_chunks_8 : decode tp_bL_chunks 8 = .ok (.lastore, 1) := by decide +kernel
theorem dL_chunks_9 : decode tp_bL_chunks 9 = .ok (.goto 6, 3) := by decide +kernel
theorem dL_chunks_12 : decode tp_bL_chunks 12 = .ok (.astore_n 3, 1) := by decide +kernel
theorem dL_chunks_13 : decode tp_bL_chunks 13 = .ok (.iconst 1, 1) := by decide +kernel
theorem dL_chunks_14 : decode tp_bL_chunks 14 = .ok (.ireturn, 1) := by decide +kernel
theorem dL_chunks_15 : decode tp_bL_chunks 15 = .ok (.iconst 0, 1) := by decide +kernel
theorem dL_chunks_16 : decode tp_bL_chunks 16 = .ok (.ireturn, 1) := by decide +kernel
theorem dL_free_0 : decode tp_bL_free 0 = .ok (.aload_n 2, 1) := by decide +kernel
theorem dL_free_1 : decode tp_bL_free 1 = .ok (.iconst 0, 1) := by decide +kernel
theorem dL_free_2 : decode tp_bL_free 2 = .ok (.aload_n 0, 1) := by decide +kernel
theorem dL_free_3 : decode tp_bL_free 3 = .ok (.iload_n 1, 1) := by decide +kernel
theorem dL_free_4 : decode tp_bL_free 4 = .ok (.invokevirtual 29, 3) := by decide +kernel
theorem dL_free_7 : decode tp_bL_free 7 = .ok (.i2l, 1) := by decide +kernel
theorem dL_free_8 : decode tp_bL_free 8 = .ok (.lastore, 1) := by decide +kernel
theorem dL_free_9 : decode tp_bL_free 9 = .ok (.goto 6, 3) := by decide +kernel
theorem dL_free_12 : decode tp_bL_free 12 = .ok (.astore_n 3, 1) := by decide +kernel
theorem dL_free_13 : decode tp_bL_free 13 = .ok (.iconst 1, 1) := by decide +kernel
theorem dL_free_14 : decode tp_bL_free 14 = .ok (.ireturn, 1) := by decide +kernel
theorem dL_free_15 : decode tp_bL_free 15 = .ok (.iconst 0, 1) := by decide +kernel
theorem dL_free_16 : decode tp_bL_free 16 = .ok (.ireturn, 1) := by decide +kernel
theorem dL_write_0 : decode tp_bL_write 0 = .ok (.aload_n 0, 1) := by decide +kernel
theorem dL_write_1 : decode tp_bL_write 1 = .ok (.iload_n 1, 1) := by decide +kernel
theorem dL_write_2 : decode tp_bL_write 2 = .ok (.iload_n 2, 1) := by decide +kernel
theorem dL_write_3 : decode tp_bL_write 3 = .ok (.iload_n 3, 1) := by decide +kernel
theorem dL_write_4 : decode tp_bL_write 4 = .ok (.invokevirtual 32, 3) := by decide +kernel
theorem dL_write_7 : decode tp_bL_write 7 = .ok (.goto 11, 3) := by decide +kernel
theorem dL_write_10 : decode tp_bL_write 10 = .ok (.astore 4, 2) := by decide +kernel
theorem dL_write_12 : decode tp_bL_write 12 = .ok (.iconst 1, 1) := by decide +kernel
theorem dL_write_13 : decode tp_bL_write 13 = .ok (.ireturn, 1) := by decide +kernel
theorem dL_write_14 : decode tp_bL_write 14 = .ok (.astore 4, 2) := by decide +kernel
theorem dL_write_16 : decode tp_bL_write 16 = .ok (.iconst 2, 1) := by decide +kernel
theorem dL_write_17 : decode tp_bL_write 17 = .ok (.ireturn, 1) := by decide +kernel
theorem dL_write_18 : decode tp_bL_write 18 = .ok (.iconst 0, 1) := by decide +kernel
theorem dL_write_19 : decode tp_bL_write 19 = .ok (.ireturn, 1) := by decide +kernel
theorem dL_read_0 : decode tp_bL_read 0 = .ok (.aload_n 3, 1) := by decide +kernel
theorem dL_read_1 : decode tp_bL_read 1 = .ok (.iconst 0, 1) := by decide +kernel
theorem dL_read_2 : decode tp_bL_read 2 = .ok (.aload_n 0, 1) := by decide +kernel
theorem dL_read_3 : decode tp_bL_read 3 = .ok (.iload_n 1, 1) := by decide +kernel
theorem dL_read_4 : decode tp_bL_read 4 = .ok (.iload_n 2, 1) := by decide +kernel
theorem dL_read_5 : decode tp_bL_read 5 = .ok (.invokevirtual 36, 3) := by decide +kernel
theorem dL_read_8 : decode tp_bL_read 8 = .ok (.i2l, 1) := by decide +kernel
theorem dL_read_9 : decode tp_bL_read 9 = .ok (.lastore, 1) := by decide +kernel
theorem dL_read_10 : decode tp_bL_read 10 = .ok (.goto 11, 3) := by decide +kernel
theorem dL_read_13 : decode tp_bL_read 13 = .ok (.astore 4, 2) := by decide +kernel
theorem dL_read_15 : decode tp_bL_read 15 = .ok (.iconst 1, 1) := by decide +kernel
theorem dL_read_16 : decode tp_bL_read 16 = .ok (.ireturn, 1) := by decide +kernel
theorem dL_read_17 : decode tp_bL_read 17 = .ok (.astore 4, 2) := by decide +kernel
theorem dL_read_19 : decode tp_bL_read 19 = .ok (.iconst 2, 1) := by decide +kernel
theorem dL_read_20 : decode tp_bL_read 20 = .ok (.ireturn, 1) := by decide +kernel
theorem dL_read_21 : decode tp_bL_read 21 = .ok (.iconst 0, 1) := by decide +kernel
theorem dL_read_22 : decode tp_bL_read 22 = .ok (.ireturn, 1) := by decide +kernel
theorem dL_fail_0 : decode tp_bL_fail 0 = .ok (.aload_n 2, 1) := by decide +kernel
theorem dL_fail_1 : decode tp_bL_fail 1 = .ok (.iconst 0, 1) := by decide +kernel
theorem dL_fail_2 : decode tp_bL_fail 2 = .ok (.aload_n 0, 1) := by decide +kernel
theorem dL_fail_3 : decode tp_bL_fail 3 = .ok (.iload_n 1, 1) := by decide +kernel
theorem dL_fail_4 : decode tp_bL_fail 4 = .ok (.invokevirtual 40, 3) := by decide +kernel
theorem dL_fail_7 : decode tp_bL_fail 7 = .ok (.i2l, 1) := by decide +kernel
theorem dL_fail_8 : decode tp_bL_fail 8 = .ok (.lastore, 1) := by decide +kernel
theorem dL_fail_9 : decode tp_bL_fail 9 = .ok (.goto 6, 3) := by decide +kernel
theorem dL_fail_12 : decode tp_bL_fail 12 = .ok (.astore_n 3, 1) := by decide +kernel
theorem dL_fail_13 : decode tp_bL_fail 13 = .ok (.iconst 1, 1) := by decide +kernel
theorem dL_fail_14 : decode tp_bL_fail 14 = .ok (.ireturn, 1) := by decide +kernel
theorem dL_fail_15 : decode tp_bL_fail 15 = .ok (.iconst 0, 1) := by decide +kernel
theorem dL_fail_16 : decode tp_bL_fail 16 = .ok (.ireturn, 1) := by decide +kernel
theorem dL_leave_0 : decode tp_bL_leave 0 = .ok (.aload_n 2, 1) := by decide +kernel
theorem dL_leave_1 : decode tp_bL_leave 1 = .ok (.iconst 0, 1) := by decide +kernel
theorem dL_leave_2 : decode tp_bL_leave 2 = .ok (.aload_n 0, 1) := by decide +kernel
theorem dL_leave_3 : decode tp_bL_leave 3 = .ok (.iload_n 1, 1) := by decide +kernel
theorem dL_leave_4 : decode tp_bL_leave 4 = .ok (.invokevirtual 43, 3) := by decide +kernel
theorem dL_leave_7 : decode tp_bL_leave 7 = .ok (.i2l, 1) := by decide +kernel
theorem dL_leave_8 : decode tp_bL_leave 8 = .ok (.lastore, 1) := by decide +kernel
theorem dL_leave_9 : decode tp_bL_leave 9 = .ok (.goto 12, 3) := by decide +kernel
theorem dL_leave_12 : decode tp_bL_leave 12 = .ok (.astore_n 3, 1) := by decide +kernel
theorem dL_leave_13 : decode tp_bL_leave 13 = .ok (.iconst 1, 1) := by decide +kernel
theorem dL_leave_14 : decode tp_bL_leave 14 = .ok (.ireturn, 1) := by decide +kernel
theorem dL_leave_15 : decode tp_bL_leave 15 = .ok (.astore_n 3, 1) := by decide +kernel
theorem dL_leave_16 : decode tp_bL_leave 16 = .ok (.iconst 2, 1) := by decide +kernel
theorem dL_leave_17 : decode tp_bL_leave 17 = .ok (.ireturn, 1) := by decide +kernel
theorem dL_leave_18 : decode tp_bL_leave 18 = .ok (.astore_n 3, 1) := by decide +kernel
theorem dL_leave_19 : decode tp_bL_leave 19 = .ok (.iconst 3, 1) := by decide +kernel
theorem dL_leave_20 : decode tp_bL_leave 20 = .ok (.ireturn, 1) := by decide +kernel
theorem dL_leave_21 : decode tp_bL_leave 21 = .ok (.iconst 0, 1) := by decide +kernel
theorem dL_leave_22 : decode tp_bL_leave 22 = .ok (.ireturn, 1) := by decide +kernel
theorem dL_stay_0 : decode tp_bL_stay 0 = .ok (.aload_n 0, 1) := by decide +kernel
theorem dL_stay_1 : decode tp_bL_stay 1 = .ok (.iload_n 1, 1) := by decide +kernel
theorem dL_stay_2 : decode tp_bL_stay 2 = .ok (.invokevirtual 46, 3) := by decide +kernel
theorem dL_stay_5 : decode tp_bL_stay 5 = .ok (.goto 9, 3) := by decide +kernel
theorem dL_stay_8 : decode tp_bL_stay 8 = .ok (.astore_n 2, 1) := by decide +kernel
theorem dL_stay_9 : decode tp_bL_stay 9 = .ok (.iconst 1, 1) := by decide +kernel
theorem dL_stay_10 : decode tp_bL_stay 10 = .ok (.ireturn, 1) := by decide +kernel
theorem dL_stay_11 : decode tp_bL_stay 11 = .ok (.astore_n 2, 1) := by decide +kernel
theorem dL_stay_12 : decode tp_bL_stay 12 = .ok (.iconst 2, 1) := by decide +kernel
theorem dL_stay_13 : decode tp_bL_stay 13 = .ok (.ireturn, 1) := by decide +kernel
theorem dL_stay_14 : decode tp_bL_stay 14 = .ok (.iconst 0, 1) := by decide +kernel
theorem dL_stay_15 : decode tp_bL_stay 15 = .ok (.ireturn, 1) := by decide +kernel
theorem dL_steps_0 : decode tp_bL_steps 0 = .ok (.aload_n 2, 1) := by decide +kernel
theorem dL_steps_1 : decode tp_bL_steps 1 = .ok (.iconst 0, 1) := by decide +kernel
theorem dL_steps_2 : decode tp_bL_steps 2 = .ok (.aload_n 0, 1) := by decide +kernel
theorem dL_steps_3 : decode tp_bL_steps 3 = .ok (.iload_n 1, 1) := by decide +kernel
theorem dL_steps_4 : decode tp_bL_steps 4 = .ok (.invokevirtual 50, 3) := by decide +kernel
theorem dL_steps_7 : decode tp_bL_steps 7 = .ok (.i2l, 1) := by decide +kernel
theorem dL_steps_8 : decode tp_bL_steps 8 = .ok (.lastore, 1) := by decide +kernel
theorem dL_steps_9 : decode tp_bL_steps 9 = .ok (.goto 6, 3) := by decide +kernel
theorem dL_steps_12 : decode tp_bL_steps 12 = .ok (.astore_n 3, 1) := by decide +kernel
theorem dL_steps_13 : decode tp_bL_steps 13 = .ok (.iconst 1, 1) := by decide +kernel
theorem dL_steps_14 : decode tp_bL_steps 14 = .ok (.ireturn, 1) := by decide +kernel
theorem dL_steps_15 : decode tp_bL_steps 15 = .ok (.iconst 0, 1) := by decide +kernel
theorem dL_steps_16 : decode tp_bL_steps 16 = .ok (.ireturn, 1) := by decide +kernel
theorem dL_place_0 : decode tp_bL_place 0 = .ok (.aload_n 3, 1) := by decide +kernel
theorem dL_place_1 : decode tp_bL_place 1 = .ok (.iconst 0, 1) := by decide +kernel
theorem dL_place_2 : decode tp_bL_place 2 = .ok (.aload_n 0, 1) := by decide +kernel
theorem dL_place_3 : decode tp_bL_place 3 = .ok (.iload_n 1, 1) := by decide +kernel
theorem dL_place_4 : decode tp_bL_place 4 = .ok (.iload_n 2, 1) := by decide +kernel
theorem dL_place_5 : decode tp_bL_place 5 = .ok (.invokevirtual 53, 3) := by decide +kernel
theorem dL_place_8 : decode tp_bL_place 8 = .ok (.i2l, 1) := by decide +kernel
theorem dL_place_9 : decode tp_bL_place 9 = .ok (.lastore, 1) := by decide +kernel
theorem dL_place_10 : decode tp_bL_place 10 = .ok (.goto 7, 3) := by decide +kernel
theorem dL_place_13 : decode tp_bL_place 13 = .ok (.astore 4, 2) := by decide +kernel
theorem dL_place_15 : decode tp_bL_place 15 = .ok (.iconst 1, 1) := by decide +kernel
theorem dL_place_16 : decode tp_bL_place 16 = .ok (.ireturn, 1) := by decide +kernel
theorem dL_place_17 : decode tp_bL_place 17 = .ok (.iconst 0, 1) := by decide +kernel
theorem dL_place_18 : decode tp_bL_place 18 = .ok (.ireturn, 1) := by decide +kernel
theorem dL_about_0 : decode tp_bL_about 0 = .ok (.aload_n 3, 1) := by decide +kernel
theorem dL_about_1 : decode tp_bL_about 1 = .ok (.iconst 0, 1) := by decide +kernel
theorem dL_about_2 : decode tp_bL_about 2 = .ok (.aload_n 0, 1) := by decide +kernel
theorem dL_about_3 : decode tp_bL_about 3 = .ok (.iload_n 1, 1) := by decide +kernel
theorem dL_about_4 : decode tp_bL_about 4 = .ok (.iload_n 2, 1) := by decide +kernel
theorem dL_about_5 : decode tp_bL_about 5 = .ok (.invokevirtual 57, 3) := by decide +kernel
theorem dL_about_8 : decode tp_bL_about 8 = .ok (.i2l, 1) := by decide +kernel
theorem dL_about_9 : decode tp_bL_about 9 = .ok (.lastore, 1) := by decide +kernel
theorem dL_about_10 : decode tp_bL_about 10 = .ok (.goto 11, 3) := by decide +kernel
theorem dL_about_13 : decode tp_bL_about 13 = .ok (.astore 4, 2) := by decide +kernel
theorem dL_about_15 : decode tp_bL_about 15 = .ok (.iconst 1, 1) := by decide +kernel
theorem dL_about_16 : decode tp_bL_about 16 = .ok (.ireturn, 1) := by decide +kernel
theorem dL_about_17 : decode tp_bL_about 17 = .ok (.astore 4, 2) := by decide +kernel
theorem dL_about_19 : decode tp_bL_about 19 = .ok (.iconst 2, 1) := by decide +kernel
theorem dL_about_20 : decode tp_bL_about 20 = .ok (.ireturn, 1) := by decide +kernel
theorem dL_about_21 : decode tp_bL_about 21 = .ok (.iconst 0, 1) := by decide +kernel
theorem dL_about_22 : decode tp_bL_about 22 = .ok (.ireturn, 1) := by decide +kernel
theorem dL_count_0 : decode tp_bL_count 0 = .ok (.aload_n 2, 1) := by decide +kernel
theorem dL_count_1 : decode tp_bL_count 1 = .ok (.iconst 0, 1) := by decide +kernel
theorem dL_count_2 : decode tp_bL_count 2 = .ok (.aload_n 0, 1) := by decide +kernel
theorem dL_count_3 : decode tp_bL_count 3 = .ok (.iload_n 1, 1) := by decide +kernel
theorem dL_count_4 : decode tp_bL_count 4 = .ok (.invokevirtual 60, 3) := by decide +kernel
theorem dL_count_7 : decode tp_bL_count 7 = .ok (.i2l, 1) := by decide +kernel
theorem dL_count_8 : decode tp_bL_count 8 = .ok (.lastore, 1) := by decide +kernel
theorem dL_count_9 : decode tp_bL_count 9 = .ok (.goto 6, 3) := by decide +kernel
theorem dL_count_12 : decode tp_bL_count 12 = .ok (.astore_n 3, 1) := by decide +kernel
theorem dL_count_13 : decode tp_bL_count 13 = .ok (.iconst 1, 1) := by decide +kernel
theorem dL_count_14 : decode tp_bL_count 14 = .ok (.ireturn, 1) := by decide +kernel
theorem dL_count_15 : decode tp_bL_count 15 = .ok (.iconst 0, 1) := by decide +kernel
theorem dL_count_16 : decode tp_bL_count 16 = .ok (.ireturn, 1) := by decide +kernel
theorem dL_law_0 : decode tp_bL_law 0 = .ok (.new 8, 3) := by decide +kernel
theorem dL_law_3 : decode tp_bL_law 3 = .ok (.dup, 1) := by decide +kernel
theorem dL_law_4 : decode tp_bL_law 4 = .ok (.invokespecial 63, 3) := by decide +kernel
theorem dL_law_7 : decode tp_bL_law 7 = .ok (.astore_n 1, 1) := by decide +kernel
theorem dL_law_8 : decode tp_bL_law 8 = .ok (.new 64, 3) := by decide +kernel
theorem dL_law_11 : decode tp_bL_law 11 = .ok (.dup, 1) := by decide +kernel
theorem dL_law_12 : decode tp_bL_law 12 = .ok (.invokespecial 66, 3) := by decide +kernel
theorem dL_law_15 : decode tp_bL_law 15 = .ok (.astore_n 2, 1) := by decide +kernel
theorem dL_law_16 : decode tp_bL_law 16 = .ok (.iconst 1, 1) := by decide +kernel
theorem dL_law_17 : decode tp_bL_law 17 = .ok (.newarray .long, 2) := by decide +kernel
theorem dL_law_19 : decode tp_bL_law 19 = .ok (.astore_n 3, 1) := by decide +kernel
theorem dL_law_20 : decode tp_bL_law 20 = .ok (.iconst 0, 1) := by decide +kernel
theorem dL_law_21 : decode tp_bL_law 21 = .ok (.istore 4, 2) := by decide +kernel
theorem dL_law_23 : decode tp_bL_law 23 = .ok (.iload 4, 2) := by decide +kernel
theorem dL_law_25 : decode tp_bL_law 25 = .ok (.aload_n 0, 1) := by decide +kernel
theorem dL_law_26 : decode tp_bL_law 26 = .ok (.arraylength, 1) := by decide +kernel
theorem dL_law_27 : decode tp_bL_law 27 = .ok (.iconst 4, 1) := by decide +kernel
theorem dL_law_28 : decode tp_bL_law 28 = .ok (.isub, 1) := by decide +kernel
theorem dL_law_29 : decode tp_bL_law 29 = .ok (.if_icmp .gt 842, 3) := by decide +kernel
theorem dL_law_32 : decode tp_bL_law 32 = .ok (.aload_n 0, 1) := by decide +kernel
theorem dL_law_33 : decode tp_bL_law 33 = .ok (.iload 4, 2) := by decide +kernel
theorem dL_law_35 : decode tp_bL_law 35 = .ok (.iaload, 1) := by decide +kernel
theorem dL_law_36 : decode tp_bL_law 36 = .ok (.bipush 15, 2) := by decide +kernel
theorem dL_law_38 : decode tp_bL_law 38 = .ok (.iand, 1) := by decide +kernel
theorem dL_law_39 : decode tp_bL_law 39 = .ok (.tableswitch 826 0 13 #[69, 117, 161, 217, 273, 333, 401, 457, 513, 549, 562, 618, 702, 770], 69) := by decide +kernel
theorem dL_law_108 : decode tp_bL_law 108 = .ok (.aload_n 1, 1) := by decide +kernel
theorem dL_law_109 : decode tp_bL_law 109 = .ok (.aload_n 0, 1) := by decide +kernel
theorem dL_law_110 : decode tp_bL_law 110 = .ok (.iload 4, 2) := by decide +kernel
theorem dL_law_112 : decode tp_bL_law 112 = .ok (.iconst 1, 1) := by decide +kernel
theorem dL_law_113 : decode tp_bL_law 113 = .ok (.iadd, 1) := by decide +kernel
theorem dL_law_114 : decode tp_bL_law 114 = .ok (.iaload, 1) := by decide +kernel
theorem dL_law_115 : decode tp_bL_law 115 = .ok (.aload_n 0, 1) := by decide +kernel
theorem dL_law_116 : decode tp_bL_law 116 = .ok (.iload 4, 2) := by decide +kernel
theorem dL_law_118 : decode tp_bL_law 118 = .ok (.iconst 2, 1) := by decide +kernel
theorem dL_law_119 : decode tp_bL_law 119 = .ok (.iadd, 1) := by decide +kernel
theorem dL_law_120 : decode tp_bL_law 120 = .ok (.iaload, 1) := by decide +kernel
theorem dL_law_121 : decode tp_bL_law 121 = .ok (.invokestatic 67, 3) := by decide +kernel
theorem dL_law_124 : decode tp_bL_law 124 = .ok (.istore 5, 2) := by decide +kernel
theorem dL_law_126 : decode tp_bL_law 126 = .ok (.aload_n 2, 1) := by decide +kernel
theorem dL_law_127 : decode tp_bL_law 127 = .ok (.aload_n 0, 1) := by decide +kernel
theorem dL_law_128 : decode tp_bL_law 128 = .ok (.iload 4, 2) := by decide +kernel
theorem dL_law_130 : decode tp_bL_law 130 = .ok (.iconst 1, 1) := by decide +kernel
theorem dL_law_131 : decode tp_bL_law 131 = .ok (.iadd, 1) := by decide +kernel
theorem dL_law_132 : decode tp_bL_law 132 = .ok (.iaload, 1) := by decide +kernel
theorem dL_law_133 : decode tp_bL_law 133 = .ok (.aload_n 0, 1) := by decide +kernel
theorem dL_law_134 : decode tp_bL_law 134 = .ok (.iload 4, 2) := by decide +kernel
theorem dL_law_136 : decode tp_bL_law 136 = .ok (.iconst 2, 1) := by decide +kernel
theorem dL_law_137 : decode tp_bL_law 137 = .ok (.iadd, 1) := by decide +kernel
theorem dL_law_138 : decode tp_bL_law 138 = .ok (.iaload, 1) := by decide +kernel
theorem dL_law_139 : decode tp_bL_law 139 = .ok (.invokevirtual 72, 3) := by decide +kernel
theorem dL_law_142 : decode tp_bL_law 142 = .ok (.aload_n 2, 1) := by decide +kernel
theorem dL_law_143 : decode tp_bL_law 143 = .ok (.invokevirtual 73, 3) := by decide +kernel
theorem dL_law_146 : decode tp_bL_law 146 = .ok (.iload 5, 2) := by decide +kernel
theorem dL_law_148 : decode tp_bL_law 148 = .ok (.if_icmp .eq 5, 3) := by decide +kernel
theorem dL_law_151 : decode tp_bL_law 151 = .ok (.iconst 0, 1) := by decide +kernel
theorem dL_law_152 : decode tp_bL_law 152 = .ok (.ireturn, 1) := by decide +kernel
theorem dL_law_153 : decode tp_bL_law 153 = .ok (.goto 712, 3) := by decide +kernel
theorem dL_law_156 : decode tp_bL_law 156 = .ok (.aload_n 1, 1) := by decide +kernel
theorem dL_law_157 : decode tp_bL_law 157 = .ok (.aload_n 3, 1) := by decide +kernel
theorem dL_law_158 : decode tp_bL_law 158 = .ok (.invokestatic 76, 3) := by decide +kernel
theorem dL_law_161 : decode tp_bL_law 161 = .ok (.istore 5, 2) := by decide +kernel
theorem dL_law_163 : decode tp_bL_law 163 = .ok (.aload_n 2, 1) := by decide +kernel
theorem dL_law_164 : decode tp_bL_law 164 = .ok (.invokevirtual 79, 3) := by decide +kernel
theorem dL_law_167 : decode tp_bL_law 167 = .ok (.istore 6, 2) := by decide +kernel
theorem dL_law_169 : decode tp_bL_law 169 = .ok (.aload_n 2, 1) := by decide +kernel
theorem dL_law_170 : decode tp_bL_law 170 = .ok (.invokevirtual 73, 3) := by decide +kernel
theorem dL_law_173 : decode tp_bL_law 173 = .ok (.iload 5, 2) := by decide +kernel
theorem dL_law_175 : decode tp_bL_law 175 = .ok (.if_icmp .eq 5, 3) := by decide +kernel
theorem dL_law_178 : decode tp_bL_law 178 = .ok (.iconst 0, 1) := by decide +kernel
theorem dL_law_179 : decode tp_bL_law 179 = .ok (.ireturn, 1) := by decide +kernel
theorem dL_law_180 : decode tp_bL_law 180 = .ok (.iload 5, 2) := by decide +kernel
theorem dL_law_182 : decode tp_bL_law 182 = .ok (.ifCond .ne 15, 3) := by decide +kernel
theorem dL_law_185 : decode tp_bL_law 185 = .ok (.aload_n 3, 1) := by decide +kernel
theorem dL_law_186 : decode tp_bL_law 186 = .ok (.iconst 0, 1) := by decide +kernel
theorem dL_law_187 : decode tp_bL_law 187 = .ok (.laload, 1) := by decide +kernel
theorem dL_law_188 : decode tp_bL_law 188 = .ok (.iload 6, 2) := by decide +kernel
theorem dL_law_190 : decode tp_bL_law 190 = .ok (.i2l, 1) := by decide +kernel
theorem dL_law_191 : decode tp_bL_law 191 = .ok (.lcmp, 1) := by decide +kernel
theorem dL_law_192 : decode tp_bL_law 192 = .ok (.ifCond .eq 5, 3) := by decide +kernel
theorem dL_law_195 : decode tp_bL_law 195 = .ok (.iconst 0, 1) := by decide +kernel
theorem dL_law_196 : decode tp_bL_law 196 = .ok (.ireturn, 1) := by decide +kernel
theorem dL_law_197 : decode tp_bL_law 197 = .ok (.goto 668, 3) := by decide +kernel
theorem dL_law_200 : decode tp_bL_law 200 = .ok (.aload_n 1, 1) := by decide +kernel
theorem dL_law_201 : decode tp_bL_law 201 = .ok (.aload_n 0, 1) := by decide +kernel
theorem dL_law_202 : decode tp_bL_law 202 = .ok (.iload 4, 2) := by decide +kernel
theorem dL_law_204 : decode tp_bL_law 204 = .ok (.iconst 1, 1) := by decide +kernel
theorem dL_law_205 : decode tp_bL_law 205 = .ok (.iadd, 1) := by decide +kernel
theorem dL_law_206 : decode tp_bL_law 206 = .ok (.iaload, 1) := by decide +kernel
theorem dL_law_207 : decode tp_bL_law 207 = .ok (.aload_n 3, 1) := by decide +kernel
theorem dL_law_208 : decode tp_bL_law 208 = .ok (.invokestatic 80, 3) := by decide +kernel
theorem dL_law_211 : decode tp_bL_law 211 = .ok (.istore 5, 2) := by decide +kernel
theorem dL_law_213 : decode tp_bL_law 213 = .ok (.aload_n 2, 1) := by decide +kernel
theorem dL_law_214 : decode tp_bL_law 214 = .ok (.aload_n 0, 1) := by decide +kernel
theorem dL_law_215 : decode tp_bL_law 215 = .ok (.iload 4, 2) := by decide +kernel
theorem dL_law_217 : decode tp_bL_law 217 = .ok (.iconst 1, 1) := by decide +kernel
theorem dL_law_218 : decode tp_bL_law 218 = .ok (.iadd, 1) := by decide +kernel
theorem dL_law_219 : decode tp_bL_law 219 = .ok (.iaload, 1) := by decide +kernel
theorem dL_law_220 : decode tp_bL_law 220 = .ok (.invokevirtual 83, 3) := by decide +kernel
theorem dL_law_223 : decode tp_bL_law 223 = .ok (.istore 6, 2) := by decide +kernel
theorem dL_law_225 : decode tp_bL_law 225 = .ok (.aload_n 2, 1) := by decide +kernel
theorem dL_law_226 : decode tp_bL_law 226 = .ok (.invokevirtual 73, 3) := by decide +kernel
theorem dL_law_229 : decode tp_bL_law 229 = .ok (.iload 5, 2) := by decide +kernel
theorem dL_law_231 : decode tp_bL_law 231 = .ok (.if_icmp .eq 5, 3) := by decide +kernel
theorem dL_law_234 : decode tp_bL_law 234 = .ok (.iconst 0, 1) := by decide +kernel
theorem dL_law_235 : decode tp_bL_law 235 = .ok (.ireturn, 1) := by decide +kernel
theorem dL_law_236 : decode tp_bL_law 236 = .ok (.iload 5, 2) := by decide +kernel
theorem dL_law_238 : decode tp_bL_law 238 = .ok (.ifCond .ne 15, 3) := by decide +kernel
theorem dL_law_241 : decode tp_bL_law 241 = .ok (.aload_n 3, 1) := by decide +kernel
theorem dL_law_242 : decode tp_bL_law 242 = .ok (.iconst 0, 1) := by decide +kernel
theorem dL_law_243 : decode tp_bL_law 243 = .ok (.laload, 1) := by decide +kernel
theorem dL_law_244 : decode tp_bL_law 244 = .ok (.iload 6, 2) := by decide +kernel
theorem dL_law_246 : decode tp_bL_law 246 = .ok (.i2l, 1) := by decide +kernel
theorem dL_law_247 : decode tp_bL_law 247 = .ok (.lcmp, 1) := by decide +kernel
theorem dL_law_248 : decode tp_bL_law 248 = .ok (.ifCond .eq 5, 3) := by decide +kernel
end
section
theorem dL_law_251 : decode tp_bL_law 251 = .ok (.iconst 0, 1) := by decide +kernel
theorem dL_law_252 : decode tp_bL_law 252 = .ok (.ireturn, 1) := by decide +kernel
theorem dL_law_253 : decode tp_bL_law 253 = .ok (.goto 612, 3) := by decide +kernel
theorem dL_law_256 : decode tp_bL_law 256 = .ok (.aload_n 1, 1) := by decide +kernel
theorem dL_law_257 : decode tp_bL_law 257 = .ok (.aload_n 0, 1) := by decide +kernel
theorem dL_law_258 : decode tp_bL_law 258 = .ok (.iload 4, 2) := by decide +kernel
theorem dL_law_260 : decode tp_bL_law 260 = .ok (.iconst 1, 1) := by decide +kernel
theorem dL_law_261 : decode tp_bL_law 261 = .ok (.iadd, 1) := by decide +kernel
theorem dL_law_262 : decode tp_bL_law 262 = .ok (.iaload, 1) := by decide +kernel
theorem dL_law_263 : decode tp_bL_law 263 = .ok (.aload_n 3, 1) := by decide +kernel
theorem dL_law_264 : decode tp_bL_law 264 = .ok (.invokestatic 84, 3) := by decide +kernel
theorem dL_law_267 : decode tp_bL_law 267 = .ok (.istore 5, 2) := by decide +kernel
theorem dL_law_269 : decode tp_bL_law 269 = .ok (.aload_n 2, 1) := by decide +kernel
theorem dL_law_270 : decode tp_bL_law 270 = .ok (.aload_n 0, 1) := by decide +kernel
theorem dL_law_271 : decode tp_bL_law 271 = .ok (.iload 4, 2) := by decide +kernel
theorem dL_law_273 : decode tp_bL_law 273 = .ok (.iconst 1, 1) := by decide +kernel
theorem dL_law_274 : decode tp_bL_law 274 = .ok (.iadd, 1) := by decide +kernel
theorem dL_law_275 : decode tp_bL_law 275 = .ok (.iaload, 1) := by decide +kernel
theorem dL_law_276 : decode tp_bL_law 276 = .ok (.invokevirtual 86, 3) := by decide +kernel
theorem dL_law_279 : decode tp_bL_law 279 = .ok (.istore 6, 2) := by decide +kernel
theorem dL_law_281 : decode tp_bL_law 281 = .ok (.aload_n 2, 1) := by decide +kernel
theorem dL_law_282 : decode tp_bL_law 282 = .ok (.invokevirtual 73, 3) := by decide +kernel
theorem dL_law_285 : decode tp_bL_law 285 = .ok (.iload 5, 2) := by decide +kernel
theorem dL_law_287 : decode tp_bL_law 287 = .ok (.if_icmp .eq 5, 3) := by decide +kernel
theorem dL_law_290 : decode tp_bL_law 290 = .ok (.iconst 0, 1) := by decide +kernel
theorem dL_law_291 : decode tp_bL_law 291 = .ok (.ireturn, 1) := by decide +kernel
theorem dL_law_292 : decode tp_bL_law 292 = .ok (.iload 5, 2) := by decide +kernel
theorem dL_law_294 : decode tp_bL_law 294 = .ok (.ifCond .ne 15, 3) := by decide +kernel
theorem dL_law_297 : decode tp_bL_law 297 = .ok (.aload_n 3, 1) := by decide +kernel
theorem dL_law_298 : decode tp_bL_law 298 = .ok (.iconst 0, 1) := by decide +kernel
theorem dL_law_299 : decode tp_bL_law 299 = .ok (.laload, 1) := by decide +kernel
theorem dL_law_300 : decode tp_bL_law 300 = .ok (.iload 6, 2) := by decide +kernel
theorem dL_law_302 : decode tp_bL_law 302 = .ok (.i2l, 1) := by decide +kernel
theorem dL_law_303 : decode tp_bL_law 303 = .ok (.lcmp, 1) := by decide +kernel
theorem dL_law_304 : decode tp_bL_law 304 = .ok (.ifCond .eq 5, 3) := by decide +kernel
theorem dL_law_307 : decode tp_bL_law 307 = .ok (.iconst 0, 1) := by decide +kernel
theorem dL_law_308 : decode tp_bL_law 308 = .ok (.ireturn, 1) := by decide +kernel
theorem dL_law_309 : decode tp_bL_law 309 = .ok (.goto 556, 3) := by decide +kernel
theorem dL_law_312 : decode tp_bL_law 312 = .ok (.aload_n 1, 1) := by decide +kernel
theorem dL_law_313 : decode tp_bL_law 313 = .ok (.aload_n 0, 1) := by decide +kernel
theorem dL_law_314 : decode tp_bL_law 314 = .ok (.iload 4, 2) := by decide +kernel
theorem dL_law_316 : decode tp_bL_law 316 = .ok (.iconst 1, 1) := by decide +kernel
theorem dL_law_317 : decode tp_bL_law 317 = .ok (.iadd, 1) := by decide +kernel
theorem dL_law_318 : decode tp_bL_law 318 = .ok (.iaload, 1) := by decide +kernel
theorem dL_law_319 : decode tp_bL_law 319 = .ok (.aload_n 0, 1) := by decide +kernel
theorem dL_law_320 : decode tp_bL_law 320 = .ok (.iload 4, 2) := by decide +kernel
theorem dL_law_322 : decode tp_bL_law 322 = .ok (.iconst 2, 1) := by decide +kernel
theorem dL_law_323 : decode tp_bL_law 323 = .ok (.iadd, 1) := by decide +kernel
theorem dL_law_324 : decode tp_bL_law 324 = .ok (.iaload, 1) := by decide +kernel
theorem dL_law_325 : decode tp_bL_law 325 = .ok (.aload_n 0, 1) := by decide +kernel
theorem dL_law_326 : decode tp_bL_law 326 = .ok (.iload 4, 2) := by decide +kernel
theorem dL_law_328 : decode tp_bL_law 328 = .ok (.iconst 3, 1) := by decide +kernel
theorem dL_law_329 : decode tp_bL_law 329 = .ok (.iadd, 1) := by decide +kernel
theorem dL_law_330 : decode tp_bL_law 330 = .ok (.iaload, 1) := by decide +kernel
theorem dL_law_331 : decode tp_bL_law 331 = .ok (.invokestatic 87, 3) := by decide +kernel
theorem dL_law_334 : decode tp_bL_law 334 = .ok (.istore 5, 2) := by decide +kernel
theorem dL_law_336 : decode tp_bL_law 336 = .ok (.aload_n 2, 1) := by decide +kernel
theorem dL_law_337 : decode tp_bL_law 337 = .ok (.aload_n 0, 1) := by decide +kernel
theorem dL_law_338 : decode tp_bL_law 338 = .ok (.iload 4, 2) := by decide +kernel
theorem dL_law_340 : decode tp_bL_law 340 = .ok (.iconst 1, 1) := by decide +kernel
theorem dL_law_341 : decode tp_bL_law 341 = .ok (.iadd, 1) := by decide +kernel
theorem dL_law_342 : decode tp_bL_law 342 = .ok (.iaload, 1) := by decide +kernel
theorem dL_law_343 : decode tp_bL_law 343 = .ok (.aload_n 0, 1) := by decide +kernel
theorem dL_law_344 : decode tp_bL_law 344 = .ok (.iload 4, 2) := by decide +kernel
theorem dL_law_346 : decode tp_bL_law 346 = .ok (.iconst 2, 1) := by decide +kernel
theorem dL_law_347 : decode tp_bL_law 347 = .ok (.iadd, 1) := by decide +kernel
theorem dL_law_348 : decode tp_bL_law 348 = .ok (.iaload, 1) := by decide +kernel
theorem dL_law_349 : decode tp_bL_law 349 = .ok (.aload_n 0, 1) := by decide +kernel
theorem dL_law_350 : decode tp_bL_law 350 = .ok (.iload 4, 2) := by decide +kernel
theorem dL_law_352 : decode tp_bL_law 352 = .ok (.iconst 3, 1) := by decide +kernel
theorem dL_law_353 : decode tp_bL_law 353 = .ok (.iadd, 1) := by decide +kernel
theorem dL_law_354 : decode tp_bL_law 354 = .ok (.iaload, 1) := by decide +kernel
theorem dL_law_355 : decode tp_bL_law 355 = .ok (.invokevirtual 90, 3) := by decide +kernel
theorem dL_law_358 : decode tp_bL_law 358 = .ok (.aload_n 2, 1) := by decide +kernel
theorem dL_law_359 : decode tp_bL_law 359 = .ok (.invokevirtual 73, 3) := by decide +kernel
theorem dL_law_362 : decode tp_bL_law 362 = .ok (.iload 5, 2) := by decide +kernel
theorem dL_law_364 : decode tp_bL_law 364 = .ok (.if_icmp .eq 5, 3) := by decide +kernel
theorem dL_law_367 : decode tp_bL_law 367 = .ok (.iconst 0, 1) := by decide +kernel
theorem dL_law_368 : decode tp_bL_law 368 = .ok (.ireturn, 1) := by decide +kernel
theorem dL_law_369 : decode tp_bL_law 369 = .ok (.goto 496, 3) := by decide +kernel
theorem dL_law_372 : decode tp_bL_law 372 = .ok (.aload_n 1, 1) := by decide +kernel
theorem dL_law_373 : decode tp_bL_law 373 = .ok (.aload_n 0, 1) := by decide +kernel
theorem dL_law_374 : decode tp_bL_law 374 = .ok (.iload 4, 2) := by decide +kernel
theorem dL_law_376 : decode tp_bL_law 376 = .ok (.iconst 1, 1) := by decide +kernel
theorem dL_law_377 : decode tp_bL_law 377 = .ok (.iadd, 1) := by decide +kernel
theorem dL_law_378 : decode tp_bL_law 378 = .ok (.iaload, 1) := by decide +kernel
theorem dL_law_379 : decode tp_bL_law 379 = .ok (.aload_n 0, 1) := by decide +kernel
theorem dL_law_380 : decode tp_bL_law 380 = .ok (.iload 4, 2) := by decide +kernel
theorem dL_law_382 : decode tp_bL_law 382 = .ok (.iconst 2, 1) := by decide +kernel
theorem dL_law_383 : decode tp_bL_law 383 = .ok (.iadd, 1) := by decide +kernel
theorem dL_law_384 : decode tp_bL_law 384 = .ok (.iaload, 1) := by decide +kernel
theorem dL_law_385 : decode tp_bL_law 385 = .ok (.aload_n 3, 1) := by decide +kernel
theorem dL_law_386 : decode tp_bL_law 386 = .ok (.invokestatic 91, 3) := by decide +kernel
theorem dL_law_389 : decode tp_bL_law 389 = .ok (.istore 5, 2) := by decide +kernel
theorem dL_law_391 : decode tp_bL_law 391 = .ok (.aload_n 2, 1) := by decide +kernel
theorem dL_law_392 : decode tp_bL_law 392 = .ok (.aload_n 0, 1) := by decide +kernel
theorem dL_law_393 : decode tp_bL_law 393 = .ok (.iload 4, 2) := by decide +kernel
theorem dL_law_395 : decode tp_bL_law 395 = .ok (.iconst 1, 1) := by decide +kernel
theorem dL_law_396 : decode tp_bL_law 396 = .ok (.iadd, 1) := by decide +kernel
theorem dL_law_397 : decode tp_bL_law 397 = .ok (.iaload, 1) := by decide +kernel
theorem dL_law_398 : decode tp_bL_law 398 = .ok (.aload_n 0, 1) := by decide +kernel
theorem dL_law_399 : decode tp_bL_law 399 = .ok (.iload 4, 2) := by decide +kernel
theorem dL_law_401 : decode tp_bL_law 401 = .ok (.iconst 2, 1) := by decide +kernel
theorem dL_law_402 : decode tp_bL_law 402 = .ok (.iadd, 1) := by decide +kernel
theorem dL_law_403 : decode tp_bL_law 403 = .ok (.iaload, 1) := by decide +kernel
theorem dL_law_404 : decode tp_bL_law 404 = .ok (.invokevirtual 94, 3) := by decide +kernel
theorem dL_law_407 : decode tp_bL_law 407 = .ok (.istore 6, 2) := by decide +kernel
theorem dL_law_409 : decode tp_bL_law 409 = .ok (.aload_n 2, 1) := by decide +kernel
theorem dL_law_410 : decode tp_bL_law 410 = .ok (.invokevirtual 73, 3) := by decide +kernel
theorem dL_law_413 : decode tp_bL_law 413 = .ok (.iload 5, 2) := by decide +kernel
theorem dL_law_415 : decode tp_bL_law 415 = .ok (.if_icmp .eq 5, 3) := by decide +kernel
theorem dL_law_418 : decode tp_bL_law 418 = .ok (.iconst 0, 1) := by decide +kernel
theorem dL_law_419 : decode tp_bL_law 419 = .ok (.ireturn, 1) := by decide +kernel
theorem dL_law_420 : decode tp_bL_law 420 = .ok (.iload 5, 2) := by decide +kernel
theorem dL_law_422 : decode tp_bL_law 422 = .ok (.ifCond .ne 15, 3) := by decide +kernel
theorem dL_law_425 : decode tp_bL_law 425 = .ok (.aload_n 3, 1) := by decide +kernel
theorem dL_law_426 : decode tp_bL_law 426 = .ok (.iconst 0, 1) := by decide +kernel
theorem dL_law_427 : decode tp_bL_law 427 = .ok (.laload, 1) := by decide +kernel
theorem dL_law_428 : decode tp_bL_law 428 = .ok (.iload 6, 2) := by decide +kernel
theorem dL_law_430 : decode tp_bL_law 430 = .ok (.i2l, 1) := by decide +kernel
theorem dL_law_431 : decode tp_bL_law 431 = .ok (.lcmp, 1) := by decide +kernel
theorem dL_law_432 : decode tp_bL_law 432 = .ok (.ifCond .eq 5, 3) := by decide +kernel
theorem dL_law_435 : decode tp_bL_law 435 = .ok (.iconst 0, 1) := by decide +kernel
theorem dL_law_436 : decode tp_bL_law 436 = .ok (.ireturn, 1) := by decide +kernel
theorem dL_law_437 : decode tp_bL_law 437 = .ok (.goto 428, 3) := by decide +kernel
theorem dL_law_440 : decode tp_bL_law 440 = .ok (.aload_n 1, 1) := by decide +kernel
theorem dL_law_441 : decode tp_bL_law 441 = .ok (.aload_n 0, 1) := by decide +kernel
theorem dL_law_442 : decode tp_bL_law 442 = .ok (.iload 4, 2) := by decide +kernel
theorem dL_law_444 : decode tp_bL_law 444 = .ok (.iconst 1, 1) := by decide +kernel
theorem dL_law_445 : decode tp_bL_law 445 = .ok (.iadd, 1) := by decide +kernel
theorem dL_law_446 : decode tp_bL_law 446 = .ok (.iaload, 1) := by decide +kernel
theorem dL_law_447 : decode tp_bL_law 447 = .ok (.aload_n 3, 1) := by decide +kernel
theorem dL_law_448 : decode tp_bL_law 448 = .ok (.invokestatic 95, 3) := by decide +kernel
theorem dL_law_451 : decode tp_bL_law 451 = .ok (.istore 5, 2) := by decide +kernel
theorem dL_law_453 : decode tp_bL_law 453 = .ok (.aload_n 2, 1) := by decide +kernel
theorem dL_law_454 : decode tp_bL_law 454 = .ok (.aload_n 0, 1) := by decide +kernel
theorem dL_law_455 : decode tp_bL_law 455 = .ok (.iload 4, 2) := by decide +kernel
theorem dL_law_457 : decode tp_bL_law 457 = .ok (.iconst 1, 1) := by decide +kernel
theorem dL_law_458 : decode tp_bL_law 458 = .ok (.iadd, 1) := by decide +kernel
theorem dL_law_459 : decode tp_bL_law 459 = .ok (.iaload, 1) := by decide +kernel
theorem dL_law_460 : decode tp_bL_law 460 = .ok (.invokevirtual 97, 3) := by decide +kernel
theorem dL_law_463 : decode tp_bL_law 463 = .ok (.istore 6, 2) := by decide +kernel
theorem dL_law_465 : decode tp_bL_law 465 = .ok (.aload_n 2, 1) := by decide +kernel
theorem dL_law_466 : decode tp_bL_law 466 = .ok (.invokevirtual 73, 3) := by decide +kernel
theorem dL_law_469 : decode tp_bL_law 469 = .ok (.iload 5, 2) := by decide +kernel
theorem dL_law_471 : decode tp_bL_law 471 = .ok (.if_icmp .eq 5, 3) := by decide +kernel
theorem dL_law_474 : decode tp_bL_law 474 = .ok (.iconst 0, 1) := by decide +kernel
theorem dL_law_475 : decode tp_bL_law 475 = .ok (.ireturn, 1) := by decide +kernel
theorem dL_law_476 : decode tp_bL_law 476 = .ok (.iload 5, 2) := by decide +kernel
theorem dL_law_478 : decode tp_bL_law 478 = .ok (.ifCond .ne 15, 3) := by decide +kernel
theorem dL_law_481 : decode tp_bL_law 481 = .ok (.aload_n 3, 1) := by decide +kernel
theorem dL_law_482 : decode tp_bL_law 482 = .ok (.iconst 0, 1) := by decide +kernel
theorem dL_law_483 : decode tp_bL_law 483 = .ok (.laload, 1) := by decide +kernel
theorem dL_law_484 : decode tp_bL_law 484 = .ok (.iload 6, 2) := by decide +kernel
theorem dL_law_486 : decode tp_bL_law 486 = .ok (.i2l, 1) := by decide +kernel
theorem dL_law_487 : decode tp_bL_law 487 = .ok (.lcmp, 1) := by decide +kernel
theorem dL_law_488 : decode tp_bL_law 488 = .ok (.ifCond .eq 5, 3) := by decide +kernel
theorem dL_law_491 : decode tp_bL_law 491 = .ok (.iconst 0, 1) := by decide +kernel
theorem dL_law_492 : decode tp_bL_law 492 = .ok (.ireturn, 1) := by decide +kernel
theorem dL_law_493 : decode tp_bL_law 493 = .ok (.goto 372, 3) := by decide +kernel
theorem dL_law_496 : decode tp_bL_law 496 = .ok (.aload_n 1, 1) := by decide +kernel
theorem dL_law_497 : decode tp_bL_law 497 = .ok (.aload_n 0, 1) := by decide +kernel
theorem dL_law_498 : decode tp_bL_law 498 = .ok (.iload 4, 2) := by decide +kernel
theorem dL_law_500 : decode tp_bL_law 500 = .ok (.iconst 1, 1) := by decide +kernel
theorem dL_law_501 : decode tp_bL_law 501 = .ok (.iadd, 1) := by decide +kernel
theorem dL_law_502 : decode tp_bL_law 502 = .ok (.iaload, 1) := by decide +kernel
theorem dL_law_503 : decode tp_bL_law 503 = .ok (.aload_n 3, 1) := by decide +kernel
theorem dL_law_504 : decode tp_bL_law 504 = .ok (.invokestatic 98, 3) := by decide +kernel
theorem dL_law_507 : decode tp_bL_law 507 = .ok (.istore 5, 2) := by decide +kernel
theorem dL_law_509 : decode tp_bL_law 509 = .ok (.aload_n 2, 1) := by decide +kernel
theorem dL_law_510 : decode tp_bL_law 510 = .ok (.aload_n 0, 1) := by decide +kernel
theorem dL_law_511 : decode tp_bL_law 511 = .ok (.iload 4, 2) := by decide +kernel
theorem dL_law_513 : decode tp_bL_law 513 = .ok (.iconst 1, 1) := by decide +kernel
theorem dL_law_514 : decode tp_bL_law 514 = .ok (.iadd, 1) := by decide +kernel
theorem dL_law_515 : decode tp_bL_law 515 = .ok (.iaload, 1) := by decide +kernel
theorem dL_law_516 : decode tp_bL_law 516 = .ok (.invokevirtual 100, 3) := by decide +kernel
theorem dL_law_519 : decode tp_bL_law 519 = .ok (.istore 6, 2) := by decide +kernel
theorem dL_law_521 : decode tp_bL_law 521 = .ok (.aload_n 2, 1) := by decide +kernel
theorem dL_law_522 : decode tp_bL_law 522 = .ok (.invokevirtual 73, 3) := by decide +kernel
theorem dL_law_525 : decode tp_bL_law 525 = .ok (.iload 5, 2) := by decide +kernel
theorem dL_law_527 : decode tp_bL_law 527 = .ok (.if_icmp .eq 5, 3) := by decide +kernel
theorem dL_law_530 : decode tp_bL_law 530 = .ok (.iconst 0, 1) := by decide +kernel
theorem dL_law_531 : decode tp_bL_law 531 = .ok (.ireturn, 1) := by decide +kernel
theorem dL_law_532 : decode tp_bL_law 532 = .ok (.iload 5, 2) := by decide +kernel
theorem dL_law_534 : decode tp_bL_law 534 = .ok (.ifCond .ne 15, 3) := by decide +kernel
theorem dL_law_537 : decode tp_bL_law 537 = .ok (.aload_n 3, 1) := by decide +kernel
theorem dL_law_538 : decode tp_bL_law 538 = .ok (.iconst 0, 1) := by decide +kernel
theorem dL_law_539 : decode tp_bL_law 539 = .ok (.laload, 1) := by decide +kernel
theorem dL_law_540 : decode tp_bL_law 540 = .ok (.iload 6, 2) := by decide +kernel
theorem dL_law_542 : decode tp_bL_law 542 = .ok (.i2l, 1) := by decide +kernel
theorem dL_law_543 : decode tp_bL_law 543 = .ok (.lcmp, 1) := by decide +kernel
theorem dL_law_544 : decode tp_bL_law 544 = .ok (.ifCond .eq 5, 3) := by decide +kernel
theorem dL_law_547 : decode tp_bL_law 547 = .ok (.iconst 0, 1) := by decide +kernel
theorem dL_law_548 : decode tp_bL_law 548 = .ok (.ireturn, 1) := by decide +kernel
theorem dL_law_549 : decode tp_bL_law 549 = .ok (.goto 316, 3) := by decide +kernel
theorem dL_law_552 : decode tp_bL_law 552 = .ok (.aload_n 1, 1) := by decide +kernel
theorem dL_law_553 : decode tp_bL_law 553 = .ok (.aload_n 0, 1) := by decide +kernel
theorem dL_law_554 : decode tp_bL_law 554 = .ok (.iload 4, 2) := by decide +kernel
theorem dL_law_556 : decode tp_bL_law 556 = .ok (.iconst 1, 1) := by decide +kernel
theorem dL_law_557 : decode tp_bL_law 557 = .ok (.iadd, 1) := by decide +kernel
theorem dL_law_558 : decode tp_bL_law 558 = .ok (.iaload, 1) := by decide +kernel
theorem dL_law_559 : decode tp_bL_law 559 = .ok (.invokestatic 101, 3) := by decide +kernel
theorem dL_law_562 : decode tp_bL_law 562 = .ok (.istore 5, 2) := by decide +kernel
theorem dL_law_564 : decode tp_bL_law 564 = .ok (.aload_n 2, 1) := by decide +kernel
theorem dL_law_565 : decode tp_bL_law 565 = .ok (.aload_n 0, 1) := by decide +kernel
theorem dL_law_566 : decode tp_bL_law 566 = .ok (.iload 4, 2) := by decide +kernel
theorem dL_law_568 : decode tp_bL_law 568 = .ok (.iconst 1, 1) := by decide +kernel
theorem dL_law_569 : decode tp_bL_law 569 = .ok (.iadd, 1) := by decide +kernel
theorem dL_law_570 : decode tp_bL_law 570 = .ok (.iaload, 1) := by decide +kernel
theorem dL_law_571 : decode tp_bL_law 571 = .ok (.invokevirtual 104, 3) := by decide +kernel
theorem dL_law_574 : decode tp_bL_law 574 = .ok (.aload_n 2, 1) := by decide +kernel
theorem dL_law_575 : decode tp_bL_law 575 = .ok (.invokevirtual 73, 3) := by decide +kernel
theorem dL_law_578 : decode tp_bL_law 578 = .ok (.iload 5, 2) := by decide +kernel
theorem dL_law_580 : decode tp_bL_law 580 = .ok (.if_icmp .eq 5, 3) := by decide +kernel
theorem dL_law_583 : decode tp_bL_law 583 = .ok (.iconst 0, 1) := by decide +kernel
theorem dL_law_584 : decode tp_bL_law 584 = .ok (.ireturn, 1) := by decide +kernel
theorem dL_law_585 : decode tp_bL_law 585 = .ok (.goto 280, 3) := by decide +kernel
theorem dL_law_588 : decode tp_bL_law 588 = .ok (.aload_n 1, 1) := by decide +kernel
theorem dL_law_589 : decode tp_bL_law 589 = .ok (.invokevirtual 105, 3) := by decide +kernel
theorem dL_law_592 : decode tp_bL_law 592 = .ok (.aload_n 2, 1) := by decide +kernel
theorem dL_law_593 : decode tp_bL_law 593 = .ok (.invokevirtual 108, 3) := by decide +kernel
theorem dL_law_596 : decode tp_bL_law 596 = .ok (.if_icmp .eq 269, 3) := by decide +kernel
theorem dL_law_599 : decode tp_bL_law 599 = .ok (.iconst 0, 1) := by decide +kernel
theorem dL_law_600 : decode tp_bL_law 600 = .ok (.ireturn, 1) := by decide +kernel
theorem dL_law_601 : decode tp_bL_law 601 = .ok (.aload_n 1, 1) := by decide +kernel
theorem dL_law_602 : decode tp_bL_law 602 = .ok (.aload_n 0, 1) := by decide +kernel
theorem dL_law_603 : decode tp_bL_law 603 = .ok (.iload 4, 2) := by decide +kernel
theorem dL_law_605 : decode tp_bL_law 605 = .ok (.iconst 1, 1) := by decide +kernel
theorem dL_law_606 : decode tp_bL_law 606 = .ok (.iadd, 1) := by decide +kernel
theorem dL_law_607 : decode tp_bL_law 607 = .ok (.iaload, 1) := by decide +kernel
theorem dL_law_608 : decode tp_bL_law 608 = .ok (.aload_n 3, 1) := by decide +kernel
theorem dL_law_609 : decode tp_bL_law 609 = .ok (.invokestatic 109, 3) := by decide +kernel
theorem dL_law_612 : decode tp_bL_law 612 = .ok (.istore 5, 2) := by decide +kernel
theorem dL_law_614 : decode tp_bL_law 614 = .ok (.aload_n 2, 1) := by decide +kernel
theorem dL_law_615 : decode tp_bL_law 615 = .ok (.aload_n 0, 1) := by decide +kernel
theorem dL_law_616 : decode tp_bL_law 616 = .ok (.iload 4, 2) := by decide +kernel
theorem dL_law_618 : decode tp_bL_law 618 = .ok (.iconst 1, 1) := by decide +kernel
theorem dL_law_619 : decode tp_bL_law 619 = .ok (.iadd, 1) := by decide +kernel
theorem dL_law_620 : decode tp_bL_law 620 = .ok (.iaload, 1) := by decide +kernel
theorem dL_law_621 : decode tp_bL_law 621 = .ok (.invokevirtual 111, 3) := by decide +kernel
theorem dL_law_624 : decode tp_bL_law 624 = .ok (.istore 6, 2) := by decide +kernel
theorem dL_law_626 : decode tp_bL_law 626 = .ok (.aload_n 2, 1) := by decide +kernel
theorem dL_law_627 : decode tp_bL_law 627 = .ok (.invokevirtual 73, 3) := by decide +kernel
theorem dL_law_630 : decode tp_bL_law 630 = .ok (.iload 5, 2) := by decide +kernel
theorem dL_law_632 : decode tp_bL_law 632 = .ok (.if_icmp .eq 5, 3) := by decide +kernel
theorem dL_law_635 : decode tp_bL_law 635 = .ok (.iconst 0, 1) := by decide +kernel
theorem dL_law_636 : decode tp_bL_law 636 = .ok (.ireturn, 1) := by decide +kernel
theorem dL_law_637 : decode tp_bL_law 637 = .ok (.iload 5, 2) := by decide +kernel
theorem dL_law_639 : decode tp_bL_law 639 = .ok (.ifCond .ne 15, 3) := by decide +kernel
theorem dL_law_642 : decode tp_bL_law 642 = .ok (.aload_n 3, 1) := by decide +kernel
theorem dL_law_643 : decode tp_bL_law 643 = .ok (.iconst 0, 1) := by decide +kernel
theorem dL_law_644 : decode tp_bL_law 644 = .ok (.laload, 1) := by decide +kernel
theorem dL_law_645 : decode tp_bL_law 645 = .ok (.iload 6, 2) := by decide +kernel
theorem dL_law_647 : decode tp_bL_law 647 = .ok (.i2l, 1) := by decide +kernel
theorem dL_law_648 : decode tp_bL_law 648 = .ok (.lcmp, 1) := by decide +kernel
theorem dL_law_649 : decode tp_bL_law 649 = .ok (.ifCond .eq 5, 3) := by decide +kernel
theorem dL_law_652 : decode tp_bL_law 652 = .ok (.iconst 0, 1) := by decide +kernel
theorem dL_law_653 : decode tp_bL_law 653 = .ok (.ireturn, 1) := by decide +kernel
theorem dL_law_654 : decode tp_bL_law 654 = .ok (.goto 211, 3) := by decide +kernel
theorem dL_law_657 : decode tp_bL_law 657 = .ok (.aload_n 1, 1) := by decide +kernel
theorem dL_law_658 : decode tp_bL_law 658 = .ok (.aload_n 0, 1) := by decide +kernel
theorem dL_law_659 : decode tp_bL_law 659 = .ok (.iload 4, 2) := by decide +kernel
theorem dL_law_661 : decode tp_bL_law 661 = .ok (.iconst 1, 1) := by decide +kernel
theorem dL_law_662 : decode tp_bL_law 662 = .ok (.iadd, 1) := by decide +kernel
theorem dL_law_663 : decode tp_bL_law 663 = .ok (.iaload, 1) := by decide +kernel
theorem dL_law_664 : decode tp_bL_law 664 = .ok (.aload_n 0, 1) := by decide +kernel
theorem dL_law_665 : decode tp_bL_law 665 = .ok (.iload 4, 2) := by decide +kernel
theorem dL_law_667 : decode tp_bL_law 667 = .ok (.iconst 2, 1) := by decide +kernel
theorem dL_law_668 : decode tp_bL_law 668 = .ok (.iadd, 1) := by decide +kernel
theorem dL_law_669 : decode tp_bL_law 669 = .ok (.iaload, 1) := by decide +kernel
theorem dL_law_670 : decode tp_bL_law 670 = .ok (.ifCond .eq 7, 3) := by decide +kernel
theorem dL_law_673 : decode tp_bL_law 673 = .ok (.iconst 1, 1) := by decide +kernel
theorem dL_law_674 : decode tp_bL_law 674 = .ok (.goto 4, 3) := by decide +kernel
theorem dL_law_677 : decode tp_bL_law 677 = .ok (.iconst 0, 1) := by decide +kernel
theorem dL_law_678 : decode tp_bL_law 678 = .ok (.aload_n 3, 1) := by decide +kernel
theorem dL_law_679 : decode tp_bL_law 679 = .ok (.invokestatic 112, 3) := by decide +kernel
theorem dL_law_682 : decode tp_bL_law 682 = .ok (.istore 5, 2) := by decide +kernel
theorem dL_law_684 : decode tp_bL_law 684 = .ok (.aload_n 2, 1) := by decide +kernel
theorem dL_law_685 : decode tp_bL_law 685 = .ok (.aload_n 0, 1) := by decide +kernel
theorem dL_law_686 : decode tp_bL_law 686 = .ok (.iload 4, 2) := by decide +kernel
theorem dL_law_688 : decode tp_bL_law 688 = .ok (.iconst 1, 1) := by decide +kernel
theorem dL_law_689 : decode tp_bL_law 689 = .ok (.iadd, 1) := by decide +kernel
theorem dL_law_690 : decode tp_bL_law 690 = .ok (.iaload, 1) := by decide +kernel
theorem dL_law_691 : decode tp_bL_law 691 = .ok (.aload_n 0, 1) := by decide +kernel
theorem dL_law_692 : decode tp_bL_law 692 = .ok (.iload 4, 2) := by decide +kernel
theorem dL_law_694 : decode tp_bL_law 694 = .ok (.iconst 2, 1) := by decide +kernel
theorem dL_law_695 : decode tp_bL_law 695 = .ok (.iadd, 1) := by decide +kernel
theorem dL_law_696 : decode tp_bL_law 696 = .ok (.iaload, 1) := by decide +kernel
theorem dL_law_697 : decode tp_bL_law 697 = .ok (.ifCond .eq 7, 3) := by decide +kernel
theorem dL_law_700 : decode tp_bL_law 700 = .ok (.iconst 1, 1) := by decide +kernel
theorem dL_law_701 : decode tp_bL_law 701 = .ok (.goto 4, 3) := by decide +kernel
theorem dL_law_704 : decode tp_bL_law 704 = .ok (.iconst 0, 1) := by decide +kernel
theorem dL_law_705 : decode tp_bL_law 705 = .ok (.invokevirtual 115, 3) := by decide +kernel
theorem dL_law_708 : decode tp_bL_law 708 = .ok (.istore 6, 2) := by decide +kernel
theorem dL_law_710 : decode tp_bL_law 710 = .ok (.aload_n 2, 1) := by decide +kernel
theorem dL_law_711 : decode tp_bL_law 711 = .ok (.invokevirtual 73, 3) := by decide +kernel
theorem dL_law_714 : decode tp_bL_law 714 = .ok (.iload 5, 2) := by decide +kernel
theorem dL_law_716 : decode tp_bL_law 716 = .ok (.if_icmp .eq 5, 3) := by decide +kernel
theorem dL_law_719 : decode tp_bL_law 719 = .ok (.iconst 0, 1) := by decide +kernel
theorem dL_law_720 : decode tp_bL_law 720 = .ok (.ireturn, 1) := by decide +kernel
end
section
theorem dL_law_721 : decode tp_bL_law 721 = .ok (.iload 5, 2) := by decide +kernel
theorem dL_law_723 : decode tp_bL_law 723 = .ok (.ifCond .ne 15, 3) := by decide +kernel
theorem dL_law_726 : decode tp_bL_law 726 = .ok (.aload_n 3, 1) := by decide +kernel
theorem dL_law_727 : decode tp_bL_law 727 = .ok (.iconst 0, 1) := by decide +kernel
theorem dL_law_728 : decode tp_bL_law 728 = .ok (.laload, 1) := by decide +kernel
theorem dL_law_729 : decode tp_bL_law 729 = .ok (.iload 6, 2) := by decide +kernel
theorem dL_law_731 : decode tp_bL_law 731 = .ok (.i2l, 1) := by decide +kernel
theorem dL_law_732 : decode tp_bL_law 732 = .ok (.lcmp, 1) := by decide +kernel
theorem dL_law_733 : decode tp_bL_law 733 = .ok (.ifCond .eq 5, 3) := by decide +kernel
theorem dL_law_736 : decode tp_bL_law 736 = .ok (.iconst 0, 1) := by decide +kernel
theorem dL_law_737 : decode tp_bL_law 737 = .ok (.ireturn, 1) := by decide +kernel
theorem dL_law_738 : decode tp_bL_law 738 = .ok (.goto 127, 3) := by decide +kernel
theorem dL_law_741 : decode tp_bL_law 741 = .ok (.aload_n 1, 1) := by decide +kernel
theorem dL_law_742 : decode tp_bL_law 742 = .ok (.aload_n 0, 1) := by decide +kernel
theorem dL_law_743 : decode tp_bL_law 743 = .ok (.iload 4, 2) := by decide +kernel
theorem dL_law_745 : decode tp_bL_law 745 = .ok (.iconst 1, 1) := by decide +kernel
theorem dL_law_746 : decode tp_bL_law 746 = .ok (.iadd, 1) := by decide +kernel
theorem dL_law_747 : decode tp_bL_law 747 = .ok (.iaload, 1) := by decide +kernel
theorem dL_law_748 : decode tp_bL_law 748 = .ok (.aload_n 0, 1) := by decide +kernel
theorem dL_law_749 : decode tp_bL_law 749 = .ok (.iload 4, 2) := by decide +kernel
theorem dL_law_751 : decode tp_bL_law 751 = .ok (.iconst 2, 1) := by decide +kernel
theorem dL_law_752 : decode tp_bL_law 752 = .ok (.iadd, 1) := by decide +kernel
theorem dL_law_753 : decode tp_bL_law 753 = .ok (.iaload, 1) := by decide +kernel
theorem dL_law_754 : decode tp_bL_law 754 = .ok (.aload_n 3, 1) := by decide +kernel
theorem dL_law_755 : decode tp_bL_law 755 = .ok (.invokestatic 116, 3) := by decide +kernel
theorem dL_law_758 : decode tp_bL_law 758 = .ok (.istore 5, 2) := by decide +kernel
theorem dL_law_760 : decode tp_bL_law 760 = .ok (.aload_n 2, 1) := by decide +kernel
theorem dL_law_761 : decode tp_bL_law 761 = .ok (.aload_n 0, 1) := by decide +kernel
theorem dL_law_762 : decode tp_bL_law 762 = .ok (.iload 4, 2) := by decide +kernel
theorem dL_law_764 : decode tp_bL_law 764 = .ok (.iconst 1, 1) := by decide +kernel
theorem dL_law_765 : decode tp_bL_law 765 = .ok (.iadd, 1) := by decide +kernel
theorem dL_law_766 : decode tp_bL_law 766 = .ok (.iaload, 1) := by decide +kernel
theorem dL_law_767 : decode tp_bL_law 767 = .ok (.aload_n 0, 1) := by decide +kernel
theorem dL_law_768 : decode tp_bL_law 768 = .ok (.iload 4, 2) := by decide +kernel
theorem dL_law_770 : decode tp_bL_law 770 = .ok (.iconst 2, 1) := by decide +kernel
theorem dL_law_771 : decode tp_bL_law 771 = .ok (.iadd, 1) := by decide +kernel
theorem dL_law_772 : decode tp_bL_law 772 = .ok (.iaload, 1) := by decide +kernel
theorem dL_law_773 : decode tp_bL_law 773 = .ok (.invokevirtual 118, 3) := by decide +kernel
theorem dL_law_776 : decode tp_bL_law 776 = .ok (.istore 6, 2) := by decide +kernel
theorem dL_law_778 : decode tp_bL_law 778 = .ok (.aload_n 2, 1) := by decide +kernel
theorem dL_law_779 : decode tp_bL_law 779 = .ok (.invokevirtual 73, 3) := by decide +kernel
theorem dL_law_782 : decode tp_bL_law 782 = .ok (.iload 5, 2) := by decide +kernel
theorem dL_law_784 : decode tp_bL_law 784 = .ok (.if_icmp .eq 5, 3) := by decide +kernel
theorem dL_law_787 : decode tp_bL_law 787 = .ok (.iconst 0, 1) := by decide +kernel
theorem dL_law_788 : decode tp_bL_law 788 = .ok (.ireturn, 1) := by decide +kernel
theorem dL_law_789 : decode tp_bL_law 789 = .ok (.iload 5, 2) := by decide +kernel
theorem dL_law_791 : decode tp_bL_law 791 = .ok (.ifCond .ne 15, 3) := by decide +kernel
theorem dL_law_794 : decode tp_bL_law 794 = .ok (.aload_n 3, 1) := by decide +kernel
theorem dL_law_795 : decode tp_bL_law 795 = .ok (.iconst 0, 1) := by decide +kernel
theorem dL_law_796 : decode tp_bL_law 796 = .ok (.laload, 1) := by decide +kernel
theorem dL_law_797 : decode tp_bL_law 797 = .ok (.iload 6, 2) := by decide +kernel
theorem dL_law_799 : decode tp_bL_law 799 = .ok (.i2l, 1) := by decide +kernel
theorem dL_law_800 : decode tp_bL_law 800 = .ok (.lcmp, 1) := by decide +kernel
theorem dL_law_801 : decode tp_bL_law 801 = .ok (.ifCond .eq 5, 3) := by decide +kernel
theorem dL_law_804 : decode tp_bL_law 804 = .ok (.iconst 0, 1) := by decide +kernel
theorem dL_law_805 : decode tp_bL_law 805 = .ok (.ireturn, 1) := by decide +kernel
theorem dL_law_806 : decode tp_bL_law 806 = .ok (.goto 59, 3) := by decide +kernel
theorem dL_law_809 : decode tp_bL_law 809 = .ok (.aload_n 1, 1) := by decide +kernel
theorem dL_law_810 : decode tp_bL_law 810 = .ok (.aload_n 0, 1) := by decide +kernel
theorem dL_law_811 : decode tp_bL_law 811 = .ok (.iload 4, 2) := by decide +kernel
theorem dL_law_813 : decode tp_bL_law 813 = .ok (.iconst 1, 1) := by decide +kernel
theorem dL_law_814 : decode tp_bL_law 814 = .ok (.iadd, 1) := by decide +kernel
theorem dL_law_815 : decode tp_bL_law 815 = .ok (.iaload, 1) := by decide +kernel
theorem dL_law_816 : decode tp_bL_law 816 = .ok (.aload_n 3, 1) := by decide +kernel
theorem dL_law_817 : decode tp_bL_law 817 = .ok (.invokestatic 119, 3) := by decide +kernel
theorem dL_law_820 : decode tp_bL_law 820 = .ok (.istore 5, 2) := by decide +kernel
theorem dL_law_822 : decode tp_bL_law 822 = .ok (.aload_n 2, 1) := by decide +kernel
theorem dL_law_823 : decode tp_bL_law 823 = .ok (.aload_n 0, 1) := by decide +kernel
theorem dL_law_824 : decode tp_bL_law 824 = .ok (.iload 4, 2) := by decide +kernel
theorem dL_law_826 : decode tp_bL_law 826 = .ok (.iconst 1, 1) := by decide +kernel
theorem dL_law_827 : decode tp_bL_law 827 = .ok (.iadd, 1) := by decide +kernel
theorem dL_law_828 : decode tp_bL_law 828 = .ok (.iaload, 1) := by decide +kernel
theorem dL_law_829 : decode tp_bL_law 829 = .ok (.invokevirtual 121, 3) := by decide +kernel
theorem dL_law_832 : decode tp_bL_law 832 = .ok (.istore 6, 2) := by decide +kernel
theorem dL_law_834 : decode tp_bL_law 834 = .ok (.aload_n 2, 1) := by decide +kernel
theorem dL_law_835 : decode tp_bL_law 835 = .ok (.invokevirtual 73, 3) := by decide +kernel
theorem dL_law_838 : decode tp_bL_law 838 = .ok (.iload 5, 2) := by decide +kernel
theorem dL_law_840 : decode tp_bL_law 840 = .ok (.if_icmp .eq 5, 3) := by decide +kernel
theorem dL_law_843 : decode tp_bL_law 843 = .ok (.iconst 0, 1) := by decide +kernel
theorem dL_law_844 : decode tp_bL_law 844 = .ok (.ireturn, 1) := by decide +kernel
theorem dL_law_845 : decode tp_bL_law 845 = .ok (.iload 5, 2) := by decide +kernel
theorem dL_law_847 : decode tp_bL_law 847 = .ok (.ifCond .ne 15, 3) := by decide +kernel
theorem dL_law_850 : decode tp_bL_law 850 = .ok (.aload_n 3, 1) := by decide +kernel
theorem dL_law_851 : decode tp_bL_law 851 = .ok (.iconst 0, 1) := by decide +kernel
theorem dL_law_852 : decode tp_bL_law 852 = .ok (.laload, 1) := by decide +kernel
theorem dL_law_853 : decode tp_bL_law 853 = .ok (.iload 6, 2) := by decide +kernel
theorem dL_law_855 : decode tp_bL_law 855 = .ok (.i2l, 1) := by decide +kernel
theorem dL_law_856 : decode tp_bL_law 856 = .ok (.lcmp, 1) := by decide +kernel
theorem dL_law_857 : decode tp_bL_law 857 = .ok (.ifCond .eq 5, 3) := by decide +kernel
theorem dL_law_860 : decode tp_bL_law 860 = .ok (.iconst 0, 1) := by decide +kernel
theorem dL_law_861 : decode tp_bL_law 861 = .ok (.ireturn, 1) := by decide +kernel
theorem dL_law_862 : decode tp_bL_law 862 = .ok (.goto 3, 3) := by decide +kernel
theorem dL_law_865 : decode tp_bL_law 865 = .ok (.iinc 4 4, 3) := by decide +kernel
theorem dL_law_868 : decode tp_bL_law 868 = .ok (.goto (-845), 3) := by decide +kernel
theorem dL_law_871 : decode tp_bL_law 871 = .ok (.iconst 1, 1) := by decide +kernel
theorem dL_law_872 : decode tp_bL_law 872 = .ok (.ireturn, 1) := by decide +kernel
end
section
def tp_noF : Addr → Prop := fun _ => False
def tp_TB : List Cond := lw_tbl.filter goodWord
theorem tp_TB_good {w : Cond} (h : w ∈ tp_TB) : (w.onTables && w.keeps) = true ∨ ∃ ty, w = .arrayClass ty := good_of_word (List.mem_filter.mp h).2
def tp_inTB (ws : List Cond) : Bool := ws.all (fun w => decide (w ∈ lw_tbl) && goodWord w)
theorem tp_TB_of {ws : List Cond} (h : tp_inTB ws = true) : ∀ w ∈ ws, w ∈ tp_TB := fun w hw => by
  have h1 := List.all_eq_true.mp h w hw
  simp only [Bool.and_eq_true, decide_eq_true_eq] at h1
  exact List.mem_filter.mpr h1
theorem tp_TB_1 {w : Cond} (h : tp_inTB [w] = true) : w ∈ tp_TB := tp_TB_of h w List.mem_cons_self
abbrev tp_wsT (y : MethodName) (b : ByteArray) (n : Nat) (r : Option FieldType) : List Cond := .code y b n r :: tp_TB
theorem tp_goodV {own C : String} {idx n : Nat} {y : MethodName} {b : ByteArray} {r : Option FieldType} (h : tp_inTB [.methodLink own idx y, .instanceMethod y, .selects C y y, .initialized C, .code y b n r] = true) : GoodIn tp_TB (wsV own idx C y (tp_wsT y b n r)) := by
  have k := tp_TB_of h
  intro w hw
  have hm : w ∈ tp_TB := by
    rcases List.mem_append.mp (show w ∈ ([.methodLink own idx y, .instanceMethod y, .selects C y y, .initialized C] : List Cond) ++ (Cond.code y b n r :: tp_TB) from hw) with h1 | h1
    · exact k w (List.mem_append_left [Cond.code y b n r] h1)
    · rcases List.mem_cons.mp h1 with h2 | h2
      · exact k w (by rw [h2]; exact List.mem_append_right ([.methodLink own idx y, .instanceMethod y, .selects C y y, .initialized C] : List Cond) List.mem_cons_self)
      · exact h2
  exact ⟨hm, tp_TB_good hm⟩
theorem tp_dre {A : Nat → Prop} {w w' : va_W} (h : va_D A w) (e : w'.map Prod.fst = w.map Prod.fst) : va_D A w' := by
  have at' : ∀ (k : Nat) (q : Nat × va_E), w'[k]? = some q → ∃ q0 : Nat × va_E, w[k]? = some q0 ∧ q0.1 = q.1 := by
    intro k q hq
    have h1 : (w'.map Prod.fst)[k]? = some q.1 := by rw [List.getElem?_map, hq]; rfl
    rw [e, List.getElem?_map] at h1
    cases hw : w[k]? with
    | none => rw [hw] at h1; cases h1
    | some q0 => rw [hw] at h1; exact ⟨q0, rfl, Option.some.inj h1⟩
  refine ⟨fun i j p q hi hj hpq => ?_, fun k q hk => ?_⟩
  · obtain ⟨p0, a1, a2⟩ := at' i p hi
    obtain ⟨q0, b1, b2⟩ := at' j q hj
    exact h.1 i j p0 q0 a1 b1 (by rw [a2, b2]; exact hpq)
  · obtain ⟨q0, a1, a2⟩ := at' k q hk
    rw [← a2]; exact h.2 k q0 a1
def tp_TC : u_T := fun k => match k with
  | 0 => ("TwinPool", "placesOf", "[I", true)
  | 1 => ("TwinPool", "copiesOn", "[I", true)
  | 2 => ("TwinPool", "leaving", "[Z", true)
  | 3 => ("TwinPool", "exists", "[Z", true)
  | 4 => ("TwinPool", "lesser", "[I", true)
  | 5 => ("TwinPool", "greater", "[I", true)
  | 6 => ("TwinPool", "words", "[I", true)
  | _ => ("TwinPool", "movesForRoom", "I", false)
def tp_TM : u_T := fun k => match k with
  | 0 => ("TwinPoolModel", "thrown", "I", false)
  | 1 => ("TwinPoolModel", "places", "[I", true)
  | 2 => ("TwinPoolModel", "leaving", "[Z", true)
  | 3 => ("TwinPoolModel", "there", "[Z", true)
  | 4 => ("TwinPoolModel", "copies", "[I", true)
  | 5 => ("TwinPoolModel", "words", "[I", true)
  | _ => ("TwinPoolModel", "moves", "I", false)
def tp_tyC : Nat → FieldType := fun k => match k with
  | 2 => .array .boolean
  | 3 => .array .boolean
  | 7 => .int
  | _ => .array .int
def tp_tyM : Nat → FieldType := fun k => match k with
  | 0 => .int
  | 2 => .array .boolean
  | 3 => .array .boolean
  | 6 => .int
  | _ => .array .int
theorem tp_nmC : ∀ a, a < 8 → ∀ b, b < 8 → a ≠ b → (tp_TC a).2.1 ≠ (tp_TC b).2.1 := by decide +kernel
theorem tp_nmM : ∀ a, a < 7 → ∀ b, b < 7 → a ≠ b → (tp_TM a).2.1 ≠ (tp_TM b).2.1 := by decide +kernel
theorem tp_tyC_ok : ∀ k, k < 8 → parseFieldDescriptor (tp_TC k).2.2.1 = some (tp_tyC k) := by decide +kernel
theorem tp_tyM_ok : ∀ k, k < 7 → parseFieldDescriptor (tp_TM k).2.2.1 = some (tp_tyM k) := by decide +kernel
theorem tp_inC : ∀ w ∈ u_ws tp_RC tp_TC 8, w ∈ tp_TB := tp_TB_of (by decide +kernel)
theorem tp_inM : ∀ w ∈ u_ws tp_RM tp_TM 7, w ∈ tp_TB := tp_TB_of (by decide +kernel)
abbrev tp_CL : List vw_C := [(tp_RC, tp_TC, 8), (tp_RM, tp_TM, 7)]
abbrev tp_wC (h : Nat) (a : Nat → Nat) (cI cZ : ClassId) (σ : tp_St) : va_W := [(h, .inr (0, [.ref (a 0), .ref (a 1), .ref (a 2), .ref (a 3), .ref (a 4), .ref (a 5), .ref (a 6), .int (σ 7 0)])), (a 0, .inl (cI, 12, .inl (σ 0))), (a 1, .inl (cI, 12, .inl (σ 1))), (a 2, .inl (cZ, 12, .inl (σ 2))), (a 3, .inl (cZ, 400, .inl (σ 3))), (a 4, .inl (cI, 400, .inl (σ 4))), (a 5, .inl (cI, 400, .inl (σ 5))), (a 6, .inl (cI, 1600, .inl (σ 6)))]
abbrev tp_wM (h : Nat) (a : Nat → Nat) (cI cZ : ClassId) (σ : tp_St) : va_W := [(h, .inr (1, [.int (σ 0 0), .ref (a 1), .ref (a 2), .ref (a 3), .ref (a 4), .ref (a 5), .int (σ 6 0)])), (a 1, .inl (cI, 12, .inl (σ 1))), (a 2, .inl (cZ, 12, .inl (σ 2))), (a 3, .inl (cZ, 400, .inl (σ 3))), (a 4, .inl (cI, 400, .inl (σ 4))), (a 5, .inl (cI, 1600, .inl (σ 5)))]
def tp_PcW (D : va_G) (tys : List (ClassId × FieldType)) (w : va_W) (sz : Nat) (av : List Value) : Array Value → State → Prop := va_Pc av (fun U => U.heap.size = sz ∧ va_P D tp_CL w U.heap ∧ va_K D tp_CL tys U ∧ va_D (fun _ => True) w)
def tp_qI (r : Int32) : Array Value → State → Outcome → State → Prop := fun _ st oc t => oc = .returned (some (.int r)) ∧ t.heap = st.heap
def tp_qW (v : Option Value) (D : va_G) (w : va_W) (A : Nat → Prop) : Array Value → State → Outcome → State → Prop := fun _ st oc t => oc = .returned v ∧ va_P D tp_CL w t.heap ∧ va_F A st t
theorem tp_blindW {D : va_G} {tys : List (ClassId × FieldType)} {w : va_W} {sz : Nat} {av : List Value} : FrameBlind (tp_PcW D tys w sz av) := fun a U g mk q => by
  obtain ⟨q0, q1, qP, qK, qD⟩ := q
  exact ⟨q0, q1, qP, va_K.moved (u := U) (U := U.calling g mk a) (Vm.Alike.refl U.vm) qK, qD⟩
def tp_exN : List String := ["java/lang/RuntimeException", "java/lang/Exception"]
theorem tp_exN_ok : ∀ n ∈ tp_exN, Bundle.fit n = true := by decide +kernel
def tp_xN (k : Nat) : String := if k = 1 then "java/lang/IndexOutOfBoundsException" else if k = 2 then "java/lang/IllegalStateException" else if k = 3 then "java/lang/IllegalArgumentException" else "java/lang/UnsupportedOperationException"
def tp_NGl : List Cond := [.declares (Bundle.init0 "java/lang/RuntimeException"), .declares (Bundle.init0 "java/lang/Exception"), .declares (Bundle.init0 Bundle.tN), .castable (tp_xN 1) (tp_xN 1), .castable (tp_xN 2) (tp_xN 2), .castable (tp_xN 3) (tp_xN 3), .castable (tp_xN 4) (tp_xN 4)]
theorem tp_ng_ok : tp_NGl.all (fun w => w.faceAtom && w.onTables) = true := by decide +kernel
theorem tp_ng_moved {u U : State} (hvm : u.vm.Alike U.vm) {a a' : Array Value} (h : ∀ w ∈ tp_NGl, w.before a u = true) : ∀ w ∈ tp_NGl, w.before a' U = true := by
  intro w hw
  have h1 := List.all_eq_true.mp tp_ng_ok w hw
  simp only [Bool.and_eq_true] at h1
  exact va_tabs h1.2 (u := u.setVm U.vm) rfl (Cond.faceAtom_setVm hvm w h1.1 (h w hw))
def tp_xNc (U : State) : Prop := va_Nc (tp_xN 2) (tp_xN 1) U ∧ va_Nc (tp_xN 3) (tp_xN 1) U ∧ va_Nc (tp_xN 3) (tp_xN 2) U ∧ va_Nc (tp_xN 4) (tp_xN 1) U ∧ va_Nc (tp_xN 4) (tp_xN 2) U
theorem tp_xNcm {u U : State} (hvm : u.vm.Alike U.vm) (h : tp_xNc u) : tp_xNc U := ⟨h.1.moved hvm, h.2.1.moved hvm, h.2.2.1.moved hvm, h.2.2.2.1.moved hvm, h.2.2.2.2.moved hvm⟩
def tp_xZ (A : Nat → Prop) (U : State) : Prop := vx_Zq Bundle.tN "UNASSIGNED_STACK" Bundle.steD A U U.heap ∧ vx_Zq Bundle.tN "SUPPRESSED_SENTINEL" Bundle.listD A U U.heap ∧ (∀ w ∈ tp_NGl, w.before #[] U = true) ∧ tp_xNc U
theorem tp_xZm {A : Nat → Prop} {u U : State} (hvm : u.vm.Alike U.vm) (hh : U.heap = u.heap) (h : tp_xZ A u) : tp_xZ A U := ⟨by rw [hh]; exact vx_Zq.moved hvm h.1, by rw [hh]; exact vx_Zq.moved hvm h.2.1, tp_ng_moved hvm h.2.2.1, tp_xNcm hvm h.2.2.2⟩
theorem tp_xZc {A B : Nat → Prop} {u U : State} {H : Heap} {locs : List Loc} (hvm : u.vm.Alike U.vm) (hS : va_S A u.heap H locs) (hh : U.heap = H) (hAB : ∀ q, B q → A q) (h : tp_xZ A u) : tp_xZ B U :=
  ⟨by rw [hh]; exact (vx_Zq.moved hvm (h.1.kept hS.2.1)).narrow hAB, by rw [hh]; exact (vx_Zq.moved hvm (h.2.1.kept hS.2.1)).narrow hAB, tp_ng_moved hvm h.2.2.1, tp_xNcm hvm h.2.2.2⟩
def tp_PcX (D : va_G) (tys : List (ClassId × FieldType)) (w : va_W) (sz : Nat) (av : List Value) : Array Value → State → Prop := va_Pc av (fun U => U.heap.size = sz ∧ va_P D tp_CL w U.heap ∧ va_K D tp_CL tys U ∧ va_D (fun _ => True) w ∧ tp_xZ (va_A w sz) U)
theorem tp_blindX {D : va_G} {tys : List (ClassId × FieldType)} {w : va_W} {sz : Nat} {av : List Value} : FrameBlind (tp_PcX D tys w sz av) := fun a U g mk q => by
  obtain ⟨q0, q1, qP, qK, qD, qX⟩ := q
  exact ⟨q0, q1, qP, va_K.moved (u := U) (U := U.calling g mk a) (Vm.Alike.refl U.vm) qK, qD, tp_xZm (u := U) (U := U.calling g mk a) (Vm.Alike.refl U.vm) rfl qX⟩
def tp_qTC (D : va_G) (h : Nat) (a : Nat → Nat) (cI cZ : ClassId) (r : Nat × Int32 × tp_St) (A : Nat → Prop) : Array Value → State → Outcome → State → Prop := va_Qi (fun v (u : tp_St) => r = (0, v, u)) (fun u t => va_P D tp_CL (tp_wC h a cI cZ u) t.heap) A
def tp_qNC (D : va_G) (h : Nat) (a : Nat → Nat) (cI cZ : ClassId) (r : Nat × Int32 × tp_St) (A : Nat → Prop) : Array Value → State → Outcome → State → Prop := va_Qv (fun (u : tp_St) => r = (0, 0, u)) (fun u t => va_P D tp_CL (tp_wC h a cI cZ u) t.heap) A
def tp_qXC (ks : List Nat) (D : va_G) (h : Nat) (a : Nat → Nat) (cI cZ : ClassId) (r : Nat × Int32 × tp_St) (A : Nat → Prop) : String → State → State → Prop := vx_X (fun (u : Nat × tp_St) => u.1 ∈ ks ∧ r = (u.1, 0, u.2)) (fun E u t => E = tp_xN u.1 ∧ va_P D tp_CL (tp_wC h a cI cZ u.2) t.heap) A
def tp_xOK (own : String) (ik ic : Nat) (E : String) : Prop :=
  tp_inTB (.classLink own ik E :: .initialized E :: (vx_at0 own ic E tp_exN).filter goodWord) = true ∧
  ((vx_at0 own ic E tp_exN).filter (fun w => !goodWord w)).all (fun w => decide (w ∈ tp_NGl)) = true ∧
  (Cond.classLink own ik E :: Cond.initialized E :: vx_at0 own ic E tp_exN).all vx_ot = true ∧ Bundle.fit E = true
theorem tp_tsw3 {x : Int32} (h0 : ¬ x = 0) (h1 : ¬ x = 1) (h2 : ¬ x = 2) (h3 : ¬ x = 3) : x.toInt < 0 ∨ 3 < x.toInt := by
  have a0 := lv_neT (a := 0) h0 (by decide); have a1 := lv_neT (a := 1) h1 (by decide); have a2 := lv_neT (a := 2) h2 (by decide); have a3 := lv_neT (a := 3) h3 (by decide)
  omega
theorem tp_tsw6 {x : Int32} (h0 : ¬ x = 0) (h1 : ¬ x = 1) (h2 : ¬ x = 2) (h3 : ¬ x = 3) (h4 : ¬ x = 4) (h5 : ¬ x = 5) (h6 : ¬ x = 6) : x.toInt < 0 ∨ 6 < x.toInt := by
  have a0 := lv_neT (a := 0) h0 (by decide); have a1 := lv_neT (a := 1) h1 (by decide); have a2 := lv_neT (a := 2) h2 (by decide); have a3 := lv_neT (a := 3) h3 (by decide)
  have a4 := lv_neT (a := 4) h4 (by decide); have a5 := lv_neT (a := 5) h5 (by decide); have a6 := lv_neT (a := 6) h6 (by decide)
  omega
theorem tp_ii1 (x : Int32) : x + Int32.ofInt 1 = x + 1 := by rw [show Int32.ofInt 1 = (1 : Int32) from by decide]
section
variable {p : Program} {l : Launch} {e : Env} {R : Room} {s : State} {m : MethodId} {args : Array Value} {below : List Frame} {meth : Method} {c : Code} {H : Heap} {locs : List Loc} {cells slots : Nat} {Q : State → Prop}
variable {cc : ByteArray} {nL pc index n maxL : Nat} {ls : Array Slot} {rest st0 xs : List Value} {D : va_G} {tys : List (ClassId × FieldType)} {w w' : va_W} {A0 : Nat → Prop} {H0 : Heap}
variable {own C : String} {T : u_T} {N ci h : Nat} {fs : List Value} {y : MethodName} {bytes : ByteArray} {ret : Option FieldType} {ws : List Cond} {tp_rm : Room}
theorem tp_kP {r : Int32} (S : CallFix p m c cc nL s args tp_TB own) (hK : va_K D tp_CL tys s) (hP : va_P D tp_CL w H) (hD : va_D A0 w) (he : w[0]? = some (h, .inr (ci, fs))) (hc : tp_CL[ci]? = some (C, T, N))
    (hM : Met l y ws tp_rm (tp_PcW D tys w H.size (.ref h :: xs)) (tp_qI r) 0 0 tp_noF) (tp_cw : CallW R s args own C index y bytes maxL ret ws tp_rm 0 0 n) (hn : xs.length = n) (hsz : ls.size = nL) (hst : st0 = xs.reverse ++ .ref h :: rest)
    (hW : (rest.map fun v => v.category).sum ≤ 8) (hdg : decode cc pc = .ok (.invokevirtual index, 3)) (hf : cells ≤ R.cells ∧ slots ≤ R.slots)
    (kk : W p l e R s m args below meth c H locs cells slots Q (F0 m (pc + 3) ls (.int r :: rest))) : W p l e R s m args below meth c H locs cells slots Q (F0 m pc ls st0) := by
  have hrun := va_runV (e := e) (below := below) (meth := meth) (H := H) (locs := locs) (cells := cells) (slots := slots) (g := F0 m pc ls st0) (rest := rest) S hM tp_cw
    ⟨tp_blindW, va_recv hK hP hc he, fun U hU hW9 => ⟨rfl, by rw [hU], by rw [hU]; exact hP, va_K.moved hW9.alike hK, hD.weaken (fun _ _ _ _ => trivial)⟩⟩ rfl hn hsz hst (lv_room hW) hdg hf
  intro T9 hT X
  obtain ⟨v, st₀, t, T', L, h0, X', hL, e1, e2, ⟨hv, hh⟩, st⟩ := hrun T9 hT X
  cases hv
  have hLn : L = [] := by
    cases L with
    | nil => rfl
    | cons z _ => exact absurd (hL z List.mem_cons_self) (fun z => z)
  subst hLn
  rw [List.append_nil] at X'
  obtain ⟨t2, a1, b1⟩ := kk T' (by rw [e1, hh, h0]) X'
  exact ⟨t2, st t2 a1, b1⟩
theorem tp_kV {v : Option Value} (S : CallFix p m c cc nL s args tp_TB own) (hK : va_K D tp_CL tys s) (hP : va_P D tp_CL w H) (hD : va_D A0 w) (hS : va_S A0 H0 H locs) (hA : ∀ q : Nat, H0.size ≤ q → A0 q) (he : w[0]? = some (h, .inr (ci, fs))) (hc : tp_CL[ci]? = some (C, T, N))
    (hM : Met l y ws tp_rm (tp_PcW D tys w H.size (.ref h :: xs)) (tp_qW v D w' (va_A w H.size)) 0 0 (va_A w H.size)) (tp_cw : CallW R s args own C index y bytes maxL ret ws tp_rm 0 0 n) (hn : xs.length = n) (hsz : ls.size = nL) (hst : st0 = xs.reverse ++ .ref h :: rest)
    (hW : (rest.map fun v => v.category).sum ≤ 8) (hdg : decode cc pc = .ok (.invokevirtual index, 3)) (hf : cells ≤ R.cells ∧ slots ≤ R.slots)
    (kk : ∀ (H1 : Heap) (locs1 : List Loc), va_P D tp_CL w' H1 → va_S A0 H0 H1 locs1 → W p l e R s m args below meth c H1 locs1 cells slots Q (F0 m (pc + 3) ls (v.toList ++ rest))) : W p l e R s m args below meth c H locs cells slots Q (F0 m pc ls st0) := by
  have hrun := va_runV (e := e) (below := below) (meth := meth) (H := H) (locs := locs) (cells := cells) (slots := slots) (g := F0 m pc ls st0) (rest := rest) S hM tp_cw
    ⟨tp_blindW, va_recv hK hP hc he, fun U hU hW9 => ⟨rfl, by rw [hU], by rw [hU]; exact hP, va_K.moved hW9.alike hK, hD.weaken (fun _ _ _ _ => trivial)⟩⟩ rfl hn hsz hst (lv_room hW) hdg hf
  have hF : ∀ q, va_A w H.size q → A0 q := by
    intro q z
    rcases z with ⟨k, e9, z⟩ | z
    · exact hD.2 k (q, e9) z
    · exact hA q (Nat.le_trans hS.1 z)
  intro T9 hT X
  obtain ⟨v9, st₀, t, T', L, h0, X', hL, e1, e2, ⟨hv, hp, hz, hk⟩, st⟩ := hrun T9 hT X
  cases hv
  rw [h0] at hz hk
  obtain ⟨t2, a1, b1⟩ := kk T'.heap (locs ++ L) (by rw [e1]; exact hp)
    ⟨Nat.le_trans hS.1 (by rw [e1]; exact hz), fun q h1 h2 => by rw [e1, hk q (Nat.lt_of_lt_of_le h1 hS.1) (fun z => h2 (hF q z))]; exact hS.2.1 q h1 h2, fun q hq => by
      rcases List.mem_append.mp hq with h | h
      · exact hS.2.2 q h
      · exact hF _ (hL q h)⟩ T' rfl X'
  exact ⟨t2, st t2 a1, b1⟩
theorem tp_gtC {a : Nat → Nat} {cI cZ : ClassId} {σ : tp_St} {v : Value} (S : CallFix p m c cc nL s args tp_TB tp_RC) (hK : va_K D tp_CL tys s) (hP : va_P D tp_CL (tp_wC h a cI cZ σ) H) (k : Nat) (hk : k < 8) (hl : Cond.fieldLink tp_RC index (tp_TC k).1 (tp_TC k).2.1 (tp_TC k).2.2.1 ∈ tp_TB) (hv : ([.ref (a 0), .ref (a 1), .ref (a 2), .ref (a 3), .ref (a 4), .ref (a 5), .ref (a 6), .int (σ 7 0)] : List Value)[k]? = some v) (hdg : decode cc pc = .ok (.getfield index, 3))
    (kk : W p l e R s m args below meth c H locs cells slots Q (F0 m (pc + 3) ls (v :: rest))) : W p l e R s m args below meth c H locs cells slots Q (F0 m pc ls (.ref h :: rest)) :=
  va_get (D := D) (ci := 0) (C := tp_RC) (T := tp_TC) (N := 8) S.1 S.2.1 S.2.2.2.2 tp_inC S.2.2.2.1 hK hP 0 rfl rfl k hk (S.2.2.2.2 _ hl) (fun _ z => z) hv hdg kk
theorem tp_gtM {a : Nat → Nat} {cI cZ : ClassId} {σ : tp_St} {v : Value} (S : CallFix p m c cc nL s args tp_TB tp_RM) (hK : va_K D tp_CL tys s) (hP : va_P D tp_CL (tp_wM h a cI cZ σ) H) (k : Nat) (hk : k < 7) (hl : Cond.fieldLink tp_RM index (tp_TM k).1 (tp_TM k).2.1 (tp_TM k).2.2.1 ∈ tp_TB) (hv : ([.int (σ 0 0), .ref (a 1), .ref (a 2), .ref (a 3), .ref (a 4), .ref (a 5), .int (σ 6 0)] : List Value)[k]? = some v) (hdg : decode cc pc = .ok (.getfield index, 3))
    (kk : W p l e R s m args below meth c H locs cells slots Q (F0 m (pc + 3) ls (v :: rest))) : W p l e R s m args below meth c H locs cells slots Q (F0 m pc ls (.ref h :: rest)) :=
  va_get (D := D) (ci := 1) (C := tp_RM) (T := tp_TM) (N := 7) S.1 S.2.1 S.2.2.2.2 tp_inM S.2.2.2.1 hK hP 0 rfl rfl k hk (S.2.2.2.2 _ hl) (fun _ z => z) hv hdg kk
theorem tp_ptC7 {a : Nat → Nat} {cI cZ : ClassId} {σ : tp_St} {x : Int32} (S : CallFix p m c cc nL s args tp_TB tp_RC) (hK : va_K D tp_CL tys s) (hP : va_P D tp_CL (tp_wC h a cI cZ σ) H) (hD : va_D A0 (tp_wC h a cI cZ σ)) (hS : va_S A0 H0 H locs) (hl : Cond.fieldLink tp_RC index (tp_TC 7).1 (tp_TC 7).2.1 (tp_TC 7).2.2.1 ∈ tp_TB) (hdg : decode cc pc = .ok (.putfield index, 3))
    (kk : ∀ (H1 : Heap) (locs1 : List Loc), va_P D tp_CL (tp_wC h a cI cZ (tp_up σ 7 0 x)) H1 → va_D A0 (tp_wC h a cI cZ (tp_up σ 7 0 x)) → va_S A0 H0 H1 locs1 → W p l e R s m args below meth c H1 locs1 cells slots Q (F0 m (pc + 3) ls rest)) : W p l e R s m args below meth c H locs cells slots Q (F0 m pc ls (.int x :: .ref h :: rest)) :=
  va_put (D := D) (ci := 0) (v := .int x) (ty := .int) (C := tp_RC) (T := tp_TC) (N := 8) S.1 S.2.1 S.2.2.2.2 tp_inC tp_tyC tp_tyC_ok tp_nmC S.2.2.2.1 hK hP hD hS 0 rfl rfl 7 (by decide) (S.2.2.2.2 _ hl) (fun _ z => z) rfl (by decide +kernel) rfl rfl (Nat.le_of_ble_eq_true rfl) hdg (fun H1 l1 hp hd hs => kk H1 l1 hp hd hs)
theorem tp_ptM0 {a : Nat → Nat} {cI cZ : ClassId} {σ : tp_St} {x : Int32} (S : CallFix p m c cc nL s args tp_TB tp_RM) (hK : va_K D tp_CL tys s) (hP : va_P D tp_CL (tp_wM h a cI cZ σ) H) (hD : va_D A0 (tp_wM h a cI cZ σ)) (hS : va_S A0 H0 H locs) (hl : Cond.fieldLink tp_RM index (tp_TM 0).1 (tp_TM 0).2.1 (tp_TM 0).2.2.1 ∈ tp_TB) (hdg : decode cc pc = .ok (.putfield index, 3))
    (kk : ∀ (H1 : Heap) (locs1 : List Loc), va_P D tp_CL (tp_wM h a cI cZ (tp_up σ 0 0 x)) H1 → va_D A0 (tp_wM h a cI cZ (tp_up σ 0 0 x)) → va_S A0 H0 H1 locs1 → W p l e R s m args below meth c H1 locs1 cells slots Q (F0 m (pc + 3) ls rest)) : W p l e R s m args below meth c H locs cells slots Q (F0 m pc ls (.int x :: .ref h :: rest)) :=
  va_put (D := D) (ci := 1) (v := .int x) (ty := .int) (C := tp_RM) (T := tp_TM) (N := 7) S.1 S.2.1 S.2.2.2.2 tp_inM tp_tyM tp_tyM_ok tp_nmM S.2.2.2.1 hK hP hD hS 0 rfl rfl 0 (by decide) (S.2.2.2.2 _ hl) (fun _ z => z) rfl (by decide +kernel) rfl rfl (Nat.le_of_ble_eq_true rfl) hdg (fun H1 l1 hp hd hs => kk H1 l1 hp hd hs)
theorem tp_ptM6 {a : Nat → Nat} {cI cZ : ClassId} {σ : tp_St} {x : Int32} (S : CallFix p m c cc nL s args tp_TB tp_RM) (hK : va_K D tp_CL tys s) (hP : va_P D tp_CL (tp_wM h a cI cZ σ) H) (hD : va_D A0 (tp_wM h a cI cZ σ)) (hS : va_S A0 H0 H locs) (hl : Cond.fieldLink tp_RM index (tp_TM 6).1 (tp_TM 6).2.1 (tp_TM 6).2.2.1 ∈ tp_TB) (hdg : decode cc pc = .ok (.putfield index, 3))
    (kk : ∀ (H1 : Heap) (locs1 : List Loc), va_P D tp_CL (tp_wM h a cI cZ (tp_up σ 6 0 x)) H1 → va_D A0 (tp_wM h a cI cZ (tp_up σ 6 0 x)) → va_S A0 H0 H1 locs1 → W p l e R s m args below meth c H1 locs1 cells slots Q (F0 m (pc + 3) ls rest)) : W p l e R s m args below meth c H locs cells slots Q (F0 m pc ls (.int x :: .ref h :: rest)) :=
  va_put (D := D) (ci := 1) (v := .int x) (ty := .int) (C := tp_RM) (T := tp_TM) (N := 7) S.1 S.2.1 S.2.2.2.2 tp_inM tp_tyM tp_tyM_ok tp_nmM S.2.2.2.1 hK hP hD hS 0 rfl rfl 6 (by decide) (S.2.2.2.2 _ hl) (fun _ z => z) rfl (by decide +kernel) rfl rfl (Nat.le_of_ble_eq_true rfl) hdg (fun H1 l1 hp hd hs => kk H1 l1 hp hd hs)
theorem tp_thrC {a : Nat → Nat} {cI cZ : ClassId} {σ : tp_St} {ks : List Nat} {k ik ic : Nat} {A : Nat → Prop} {Qc : Array Value → State → Outcome → State → Prop} (hx : p.tables.exec = Jvm.exec) (hb : c.code = cc) (hl0 : l.stackTraces = false) (hown : s.vm.findClass tp_RC = some m.cls) (hk : k ∈ ks) (xk : tp_xOK tp_RC ik ic (tp_xN k)) (hTB : ∀ w ∈ tp_TB, w.before args s = true) (hX : tp_xZ A s) (hS : va_S A s.heap H locs) (hP : va_P D tp_CL (tp_wC h a cI cZ σ) H) (hsize : ls.size = c.maxLocals)
    (d0 : decode cc pc = .ok (.new ik, 3)) (d3 : decode cc (pc + 3) = .ok (.dup, 1)) (d4 : decode cc (pc + 4) = .ok (.invokespecial ic, 3)) (d7 : decode cc (pc + 7) = .ok (.athrow, 1)) (hnoh : ∀ (x : ExceptionTableEntry), x ∈ c.exceptionTable.toList → False)
    (r1 : 6 ≤ R.frames) (r2 : 81 ≤ R.locals) (r3 : 1 ≤ R.cells) (r4 : 6 ≤ R.slots) (hlocks : meth.locks = false) :
    W p l e R s m args below meth c H locs 0 0 (vx_MQ below Qc (tp_qXC ks D h a cI cZ (k, 0, σ) A) args s 1 6 A) (F0 m pc ls []) := by
  obtain ⟨x1, x2, x3, x4⟩ := xk
  have w1 := tp_TB_of x1
  have hat : ∀ w ∈ vx_at0 tp_RC ic (tp_xN k) tp_exN, w.before args s = true := vx_hat (B := tp_NGl) (fun w hw => hTB w (w1 w (List.mem_cons_of_mem _ (List.mem_cons_of_mem _ hw))))
    (fun w hw => of_decide_eq_true (List.all_eq_true.mp x2 w hw)) (tp_ng_moved (Vm.Alike.refl s.vm) hX.2.2.1)
  exact vx_throw0 (names := tp_exN) (A := A) hx hb hl0 hown x4 tp_exN_ok (hTB _ (w1 _ List.mem_cons_self)) (hTB _ (w1 _ (List.mem_cons_of_mem _ List.mem_cons_self))) hat (fun w hw => List.all_eq_true.mp x3 w hw) hX.1 hX.2.1 hS hsize d0 d3 d4 d7 (fun x z => (hnoh x z).elim)
    (show 2 + 3 < R.frames by omega) (show 0 + (13 * (2 + 1) + 42) ≤ R.locals by omega) (show 0 + 1 ≤ R.cells by omega) (show 0 + 6 ≤ R.slots by omega) hlocks
    (fun t ht hz hq => ⟨(k, σ), ⟨hk, rfl⟩, ⟨rfl, hP.kept (fun j q hj => hq q.1 ((hP j q hj).lt))⟩, ⟨Nat.le_trans hS.1 hz, fun q h1 h2 => (hq q (Nat.lt_of_lt_of_le h1 hS.1)).trans (hS.2.1 q h1 h2)⟩⟩) hS.2.2 (Nat.le_refl _) (Nat.le_refl _)
theorem tp_asC0 {a : Nat → Nat} {cI cZ : ClassId} {σ : tp_St} {i x : Int32} (S : CallFix p m c cc nL s args tp_TB tp_RC) (hK : va_K D tp_CL [(cI, .int), (cZ, .boolean)] s) (hP : va_P D tp_CL (tp_wC h a cI cZ σ) H) (hD : va_D A0 (tp_wC h a cI cZ σ)) (hS : va_S A0 H0 H locs) (hin : vp_in i 12) (hdg : decode cc pc = .ok (.iastore, 1))
    (kk : ∀ (H1 : Heap) (locs1 : List Loc), va_P D tp_CL (tp_wC h a cI cZ (tp_up σ 0 i.toNatClampNeg x)) H1 → va_D A0 (tp_wC h a cI cZ (tp_up σ 0 i.toNatClampNeg x)) → va_S A0 H0 H1 locs1 → W p l e R s m args below meth c H1 locs1 cells slots Q (F0 m (pc + 1) ls rest)) : W p l e R s m args below meth c H locs cells slots Q (F0 m pc ls (.int x :: .int i :: .ref (a 0) :: rest)) :=
  va_iast S.1 S.2.1 hK hP hD hS 1 0 rfl rfl hin hdg (fun H1 l1 hp hd hs => kk H1 l1 hp hd hs)
theorem tp_asC1 {a : Nat → Nat} {cI cZ : ClassId} {σ : tp_St} {i x : Int32} (S : CallFix p m c cc nL s args tp_TB tp_RC) (hK : va_K D tp_CL [(cI, .int), (cZ, .boolean)] s) (hP : va_P D tp_CL (tp_wC h a cI cZ σ) H) (hD : va_D A0 (tp_wC h a cI cZ σ)) (hS : va_S A0 H0 H locs) (hin : vp_in i 12) (hdg : decode cc pc = .ok (.iastore, 1))
    (kk : ∀ (H1 : Heap) (locs1 : List Loc), va_P D tp_CL (tp_wC h a cI cZ (tp_up σ 1 i.toNatClampNeg x)) H1 → va_D A0 (tp_wC h a cI cZ (tp_up σ 1 i.toNatClampNeg x)) → va_S A0 H0 H1 locs1 → W p l e R s m args below meth c H1 locs1 cells slots Q (F0 m (pc + 1) ls rest)) : W p l e R s m args below meth c H locs cells slots Q (F0 m pc ls (.int x :: .int i :: .ref (a 1) :: rest)) :=
  va_iast S.1 S.2.1 hK hP hD hS 2 0 rfl rfl hin hdg (fun H1 l1 hp hd hs => kk H1 l1 hp hd hs)
theorem tp_asC2 {a : Nat → Nat} {cI cZ : ClassId} {σ : tp_St} {i x : Int32} (S : CallFix p m c cc nL s args tp_TB tp_RC) (hK : va_K D tp_CL [(cI, .int), (cZ, .boolean)] s) (hP : va_P D tp_CL (tp_wC h a cI cZ σ) H) (hD : va_D A0 (tp_wC h a cI cZ σ)) (hS : va_S A0 H0 H locs) (hin : vp_in i 12) (hdg : decode cc pc = .ok (.bastore, 1))
    (kk : ∀ (H1 : Heap) (locs1 : List Loc), va_P D tp_CL (tp_wC h a cI cZ (tp_up σ 2 i.toNatClampNeg (vp_nar .boolean x))) H1 → va_D A0 (tp_wC h a cI cZ (tp_up σ 2 i.toNatClampNeg (vp_nar .boolean x))) → va_S A0 H0 H1 locs1 → W p l e R s m args below meth c H1 locs1 cells slots Q (F0 m (pc + 1) ls rest)) : W p l e R s m args below meth c H locs cells slots Q (F0 m pc ls (.int x :: .int i :: .ref (a 2) :: rest)) :=
  va_zast S.1 S.2.1 hK hP hD hS 3 1 rfl rfl hin hdg (fun H1 l1 hp hd hs => kk H1 l1 hp hd hs)
theorem tp_asC3 {a : Nat → Nat} {cI cZ : ClassId} {σ : tp_St} {i x : Int32} (S : CallFix p m c cc nL s args tp_TB tp_RC) (hK : va_K D tp_CL [(cI, .int), (cZ, .boolean)] s) (hP : va_P D tp_CL (tp_wC h a cI cZ σ) H) (hD : va_D A0 (tp_wC h a cI cZ σ)) (hS : va_S A0 H0 H locs) (hin : vp_in i 400) (hdg : decode cc pc = .ok (.bastore, 1))
    (kk : ∀ (H1 : Heap) (locs1 : List Loc), va_P D tp_CL (tp_wC h a cI cZ (tp_up σ 3 i.toNatClampNeg (vp_nar .boolean x))) H1 → va_D A0 (tp_wC h a cI cZ (tp_up σ 3 i.toNatClampNeg (vp_nar .boolean x))) → va_S A0 H0 H1 locs1 → W p l e R s m args below meth c H1 locs1 cells slots Q (F0 m (pc + 1) ls rest)) : W p l e R s m args below meth c H locs cells slots Q (F0 m pc ls (.int x :: .int i :: .ref (a 3) :: rest)) :=
  va_zast S.1 S.2.1 hK hP hD hS 4 1 rfl rfl hin hdg (fun H1 l1 hp hd hs => kk H1 l1 hp hd hs)
theorem tp_asC4 {a : Nat → Nat} {cI cZ : ClassId} {σ : tp_St} {i x : Int32} (S : CallFix p m c cc nL s args tp_TB tp_RC) (hK : va_K D tp_CL [(cI, .int), (cZ, .boolean)] s) (hP : va_P D tp_CL (tp_wC h a cI cZ σ) H) (hD : va_D A0 (tp_wC h a cI cZ σ)) (hS : va_S A0 H0 H locs) (hin : vp_in i 400) (hdg : decode cc pc = .ok (.iastore, 1))
    (kk : ∀ (H1 : Heap) (locs1 : List Loc), va_P D tp_CL (tp_wC h a cI cZ (tp_up σ 4 i.toNatClampNeg x)) H1 → va_D A0 (tp_wC h a cI cZ (tp_up σ 4 i.toNatClampNeg x)) → va_S A0 H0 H1 locs1 → W p l e R s m args below meth c H1 locs1 cells slots Q (F0 m (pc + 1) ls rest)) : W p l e R s m args below meth c H locs cells slots Q (F0 m pc ls (.int x :: .int i :: .ref (a 4) :: rest)) :=
  va_iast S.1 S.2.1 hK hP hD hS 5 0 rfl rfl hin hdg (fun H1 l1 hp hd hs => kk H1 l1 hp hd hs)
theorem tp_asC5 {a : Nat → Nat} {cI cZ : ClassId} {σ : tp_St} {i x : Int32} (S : CallFix p m c cc nL s args tp_TB tp_RC) (hK : va_K D tp_CL [(cI, .int), (cZ, .boolean)] s) (hP : va_P D tp_CL (tp_wC h a cI cZ σ) H) (hD : va_D A0 (tp_wC h a cI cZ σ)) (hS : va_S A0 H0 H locs) (hin : vp_in i 400) (hdg : decode cc pc = .ok (.iastore, 1))
    (kk : ∀ (H1 : Heap) (locs1 : List Loc), va_P D tp_CL (tp_wC h a cI cZ (tp_up σ 5 i.toNatClampNeg x)) H1 → va_D A0 (tp_wC h a cI cZ (tp_up σ 5 i.toNatClampNeg x)) → va_S A0 H0 H1 locs1 → W p l e R s m args below meth c H1 locs1 cells slots Q (F0 m (pc + 1) ls rest)) : W p l e R s m args below meth c H locs cells slots Q (F0 m pc ls (.int x :: .int i :: .ref (a 5) :: rest)) :=
  va_iast S.1 S.2.1 hK hP hD hS 6 0 rfl rfl hin hdg (fun H1 l1 hp hd hs => kk H1 l1 hp hd hs)
theorem tp_asC6 {a : Nat → Nat} {cI cZ : ClassId} {σ : tp_St} {i x : Int32} (S : CallFix p m c cc nL s args tp_TB tp_RC) (hK : va_K D tp_CL [(cI, .int), (cZ, .boolean)] s) (hP : va_P D tp_CL (tp_wC h a cI cZ σ) H) (hD : va_D A0 (tp_wC h a cI cZ σ)) (hS : va_S A0 H0 H locs) (hin : vp_in i 1600) (hdg : decode cc pc = .ok (.iastore, 1))
    (kk : ∀ (H1 : Heap) (locs1 : List Loc), va_P D tp_CL (tp_wC h a cI cZ (tp_up σ 6 i.toNatClampNeg x)) H1 → va_D A0 (tp_wC h a cI cZ (tp_up σ 6 i.toNatClampNeg x)) → va_S A0 H0 H1 locs1 → W p l e R s m args below meth c H1 locs1 cells slots Q (F0 m (pc + 1) ls rest)) : W p l e R s m args below meth c H locs cells slots Q (F0 m pc ls (.int x :: .int i :: .ref (a 6) :: rest)) :=
  va_iast S.1 S.2.1 hK hP hD hS 7 0 rfl rfl hin hdg (fun H1 l1 hp hd hs => kk H1 l1 hp hd hs)
theorem tp_asM1 {a : Nat → Nat} {cI cZ : ClassId} {σ : tp_St} {i x : Int32} (S : CallFix p m c cc nL s args tp_TB tp_RM) (hK : va_K D tp_CL [(cI, .int), (cZ, .boolean)] s) (hP : va_P D tp_CL (tp_wM h a cI cZ σ) H) (hD : va_D A0 (tp_wM h a cI cZ σ)) (hS : va_S A0 H0 H locs) (hin : vp_in i 12) (hdg : decode cc pc = .ok (.iastore, 1))
    (kk : ∀ (H1 : Heap) (locs1 : List Loc), va_P D tp_CL (tp_wM h a cI cZ (tp_up σ 1 i.toNatClampNeg x)) H1 → va_D A0 (tp_wM h a cI cZ (tp_up σ 1 i.toNatClampNeg x)) → va_S A0 H0 H1 locs1 → W p l e R s m args below meth c H1 locs1 cells slots Q (F0 m (pc + 1) ls rest)) : W p l e R s m args below meth c H locs cells slots Q (F0 m pc ls (.int x :: .int i :: .ref (a 1) :: rest)) :=
  va_iast S.1 S.2.1 hK hP hD hS 1 0 rfl rfl hin hdg (fun H1 l1 hp hd hs => kk H1 l1 hp hd hs)
theorem tp_asM2 {a : Nat → Nat} {cI cZ : ClassId} {σ : tp_St} {i x : Int32} (S : CallFix p m c cc nL s args tp_TB tp_RM) (hK : va_K D tp_CL [(cI, .int), (cZ, .boolean)] s) (hP : va_P D tp_CL (tp_wM h a cI cZ σ) H) (hD : va_D A0 (tp_wM h a cI cZ σ)) (hS : va_S A0 H0 H locs) (hin : vp_in i 12) (hdg : decode cc pc = .ok (.bastore, 1))
    (kk : ∀ (H1 : Heap) (locs1 : List Loc), va_P D tp_CL (tp_wM h a cI cZ (tp_up σ 2 i.toNatClampNeg (vp_nar .boolean x))) H1 → va_D A0 (tp_wM h a cI cZ (tp_up σ 2 i.toNatClampNeg (vp_nar .boolean x))) → va_S A0 H0 H1 locs1 → W p l e R s m args below meth c H1 locs1 cells slots Q (F0 m (pc + 1) ls rest)) : W p l e R s m args below meth c H locs cells slots Q (F0 m pc ls (.int x :: .int i :: .ref (a 2) :: rest)) :=
  va_zast S.1 S.2.1 hK hP hD hS 2 1 rfl rfl hin hdg (fun H1 l1 hp hd hs => kk H1 l1 hp hd hs)
theorem tp_asM3 {a : Nat → Nat} {cI cZ : ClassId} {σ : tp_St} {i x : Int32} (S : CallFix p m c cc nL s args tp_TB tp_RM) (hK : va_K D tp_CL [(cI, .int), (cZ, .boolean)] s) (hP : va_P D tp_CL (tp_wM h a cI cZ σ) H) (hD : va_D A0 (tp_wM h a cI cZ σ)) (hS : va_S A0 H0 H locs) (hin : vp_in i 400) (hdg : decode cc pc = .ok (.bastore, 1))
    (kk : ∀ (H1 : Heap) (locs1 : List Loc), va_P D tp_CL (tp_wM h a cI cZ (tp_up σ 3 i.toNatClampNeg (vp_nar .boolean x))) H1 → va_D A0 (tp_wM h a cI cZ (tp_up σ 3 i.toNatClampNeg (vp_nar .boolean x))) → va_S A0 H0 H1 locs1 → W p l e R s m args below meth c H1 locs1 cells slots Q (F0 m (pc + 1) ls rest)) : W p l e R s m args below meth c H locs cells slots Q (F0 m pc ls (.int x :: .int i :: .ref (a 3) :: rest)) :=
  va_zast S.1 S.2.1 hK hP hD hS 3 1 rfl rfl hin hdg (fun H1 l1 hp hd hs => kk H1 l1 hp hd hs)
theorem tp_asM4 {a : Nat → Nat} {cI cZ : ClassId} {σ : tp_St} {i x : Int32} (S : CallFix p m c cc nL s args tp_TB tp_RM) (hK : va_K D tp_CL [(cI, .int), (cZ, .boolean)] s) (hP : va_P D tp_CL (tp_wM h a cI cZ σ) H) (hD : va_D A0 (tp_wM h a cI cZ σ)) (hS : va_S A0 H0 H locs) (hin : vp_in i 400) (hdg : decode cc pc = .ok (.iastore, 1))
    (kk : ∀ (H1 : Heap) (locs1 : List Loc), va_P D tp_CL (tp_wM h a cI cZ (tp_up σ 4 i.toNatClampNeg x)) H1 → va_D A0 (tp_wM h a cI cZ (tp_up σ 4 i.toNatClampNeg x)) → va_S A0 H0 H1 locs1 → W p l e R s m args below meth c H1 locs1 cells slots Q (F0 m (pc + 1) ls rest)) : W p l e R s m args below meth c H locs cells slots Q (F0 m pc ls (.int x :: .int i :: .ref (a 4) :: rest)) :=
  va_iast S.1 S.2.1 hK hP hD hS 4 0 rfl rfl hin hdg (fun H1 l1 hp hd hs => kk H1 l1 hp hd hs)
theorem tp_asM5 {a : Nat → Nat} {cI cZ : ClassId} {σ : tp_St} {i x : Int32} (S : CallFix p m c cc nL s args tp_TB tp_RM) (hK : va_K D tp_CL [(cI, .int), (cZ, .boolean)] s) (hP : va_P D tp_CL (tp_wM h a cI cZ σ) H) (hD : va_D A0 (tp_wM h a cI cZ σ)) (hS : va_S A0 H0 H locs) (hin : vp_in i 1600) (hdg : decode cc pc = .ok (.iastore, 1))
    (kk : ∀ (H1 : Heap) (locs1 : List Loc), va_P D tp_CL (tp_wM h a cI cZ (tp_up σ 5 i.toNatClampNeg x)) H1 → va_D A0 (tp_wM h a cI cZ (tp_up σ 5 i.toNatClampNeg x)) → va_S A0 H0 H1 locs1 → W p l e R s m args below meth c H1 locs1 cells slots Q (F0 m (pc + 1) ls rest)) : W p l e R s m args below meth c H locs cells slots Q (F0 m pc ls (.int x :: .int i :: .ref (a 5) :: rest)) :=
  va_iast S.1 S.2.1 hK hP hD hS 5 0 rfl rfl hin hdg (fun H1 l1 hp hd hs => kk H1 l1 hp hd hs)
end
theorem tp_wC_fst {h : Nat} {a : Nat → Nat} {cI cZ : ClassId} {σ σ' : tp_St} : (tp_wC h a cI cZ σ').map Prod.fst = (tp_wC h a cI cZ σ).map Prod.fst := rfl
theorem tp_wM_fst {h : Nat} {a : Nat → Nat} {cI cZ : ClassId} {σ σ' : tp_St} : (tp_wM h a cI cZ σ').map Prod.fst = (tp_wM h a cI cZ σ).map Prod.fst := rfl
end
section
theorem tp_mC_f0 : Cond.fieldLink tp_RC 9 (tp_TC 0).1 (tp_TC 0).2.1 (tp_TC 0).2.2.1 ∈ tp_TB := tp_TB_1 (by decide +kernel)
theorem tp_mC_f1 : Cond.fieldLink tp_RC 13 (tp_TC 1).1 (tp_TC 1).2.1 (tp_TC 1).2.2.1 ∈ tp_TB := tp_TB_1 (by decide +kernel)
theorem tp_mC_f2 : Cond.fieldLink tp_RC 16 (tp_TC 2).1 (tp_TC 2).2.1 (tp_TC 2).2.2.1 ∈ tp_TB := tp_TB_1 (by decide +kernel)
theorem tp_mC_f3 : Cond.fieldLink tp_RC 20 (tp_TC 3).1 (tp_TC 3).2.1 (tp_TC 3).2.2.1 ∈ tp_TB := tp_TB_1 (by decide +kernel)
theorem tp_mC_f4 : Cond.fieldLink tp_RC 23 (tp_TC 4).1 (tp_TC 4).2.1 (tp_TC 4).2.2.1 ∈ tp_TB := tp_TB_1 (by decide +kernel)
theorem tp_mC_f5 : Cond.fieldLink tp_RC 26 (tp_TC 5).1 (tp_TC 5).2.1 (tp_TC 5).2.2.1 ∈ tp_TB := tp_TB_1 (by decide +kernel)
theorem tp_mC_f6 : Cond.fieldLink tp_RC 29 (tp_TC 6).1 (tp_TC 6).2.1 (tp_TC 6).2.2.1 ∈ tp_TB := tp_TB_1 (by decide +kernel)
theorem tp_mC_f7 : Cond.fieldLink tp_RC 32 (tp_TC 7).1 (tp_TC 7).2.1 (tp_TC 7).2.2.1 ∈ tp_TB := tp_TB_1 (by decide +kernel)
theorem tp_mM_f0 : Cond.fieldLink tp_RM 26 (tp_TM 0).1 (tp_TM 0).2.1 (tp_TM 0).2.2.1 ∈ tp_TB := tp_TB_1 (by decide +kernel)
theorem tp_mM_f1 : Cond.fieldLink tp_RM 7 (tp_TM 1).1 (tp_TM 1).2.1 (tp_TM 1).2.2.1 ∈ tp_TB := tp_TB_1 (by decide +kernel)
theorem tp_mM_f2 : Cond.fieldLink tp_RM 13 (tp_TM 2).1 (tp_TM 2).2.1 (tp_TM 2).2.2.1 ∈ tp_TB := tp_TB_1 (by decide +kernel)
theorem tp_mM_f3 : Cond.fieldLink tp_RM 17 (tp_TM 3).1 (tp_TM 3).2.1 (tp_TM 3).2.2.1 ∈ tp_TB := tp_TB_1 (by decide +kernel)
theorem tp_mM_f4 : Cond.fieldLink tp_RM 20 (tp_TM 4).1 (tp_TM 4).2.1 (tp_TM 4).2.2.1 ∈ tp_TB := tp_TB_1 (by decide +kernel)
theorem tp_mM_f5 : Cond.fieldLink tp_RM 23 (tp_TM 5).1 (tp_TM 5).2.1 (tp_TM 5).2.2.1 ∈ tp_TB := tp_TB_1 (by decide +kernel)
theorem tp_mM_f6 : Cond.fieldLink tp_RM 51 (tp_TM 6).1 (tp_TM 6).2.1 (tp_TM 6).2.2.1 ∈ tp_TB := tp_TB_1 (by decide +kernel)
theorem tp_gC_addCopy : GoodIn tp_TB (wsV tp_RC 118 tp_RC tp_yC_addCopy (tp_wsT tp_yC_addCopy tp_bC_addCopy 4 none)) := tp_goodV (by decide +kernel)
theorem tp_gC_allChunks : GoodIn tp_TB (wsV tp_RC 84 tp_RC tp_yC_allChunks (tp_wsT tp_yC_allChunks tp_bC_allChunks 3 (some .int))) := tp_goodV (by decide +kernel)
theorem tp_gC_capacityWithout : GoodIn tp_TB (wsV tp_RC 87 tp_RC tp_yC_capacityWithout (tp_wsT tp_yC_capacityWithout tp_bC_capacityWithout 5 (some .int))) := tp_goodV (by decide +kernel)
theorem tp_gC_chunksWith : GoodIn tp_TB (wsV tp_RC 81 tp_RC tp_yC_chunksWith (tp_wsT tp_yC_chunksWith tp_bC_chunksWith 4 (some .int))) := tp_goodV (by decide +kernel)
theorem tp_gC_clearWords : GoodIn tp_TB (wsV tp_RC 137 tp_RC tp_yC_clearWords (tp_wsT tp_yC_clearWords tp_bC_clearWords 3 none)) := tp_goodV (by decide +kernel)
theorem tp_gC_copiesOf : GoodIn tp_TB (wsV tp_RC 65 tp_RC tp_yC_copiesOf (tp_wsT tp_yC_copiesOf tp_bC_copiesOf 2 (some .int))) := tp_goodV (by decide +kernel)
theorem tp_gC_copiesOnLeaving : GoodIn tp_TB (wsV tp_RC 106 tp_RC tp_yC_copiesOnLeaving (tp_wsT tp_yC_copiesOnLeaving tp_bC_copiesOnLeaving 3 (some .int))) := tp_goodV (by decide +kernel)
theorem tp_gC_copyForRoom : GoodIn tp_TB (wsV tp_RC 121 tp_RC tp_yC_copyForRoom (tp_wsT tp_yC_copyForRoom tp_bC_copyForRoom 3 (some .int))) := tp_goodV (by decide +kernel)
theorem tp_gC_disksThere : GoodIn tp_TB (wsV tp_RC 103 tp_RC tp_yC_disksThere (tp_wsT tp_yC_disksThere tp_bC_disksThere 3 (some .int))) := tp_goodV (by decide +kernel)
theorem tp_gC_dropCopy : GoodIn tp_TB (wsV tp_RC 69 tp_RC tp_yC_dropCopy (tp_wsT tp_yC_dropCopy tp_bC_dropCopy 3 none)) := tp_goodV (by decide +kernel)
theorem tp_gC_emptiestBut : GoodIn tp_TB (wsV tp_RC 131 tp_RC tp_yC_emptiestBut (tp_wsT tp_yC_emptiestBut tp_bC_emptiestBut 5 (some .int))) := tp_goodV (by decide +kernel)
theorem tp_gC_freePlaces : GoodIn tp_TB (wsV tp_RC 97 tp_RC tp_yC_freePlaces (tp_wsT tp_yC_freePlaces tp_bC_freePlaces 2 (some .int))) := tp_goodV (by decide +kernel)
theorem tp_gC_hasLeft : GoodIn tp_TB (wsV tp_RC 90 tp_RC tp_yC_hasLeft (tp_wsT tp_yC_hasLeft tp_bC_hasLeft 2 (some .boolean))) := tp_goodV (by decide +kernel)
theorem tp_gC_isChunk : GoodIn tp_TB (wsV tp_RC 62 tp_RC tp_yC_isChunk (tp_wsT tp_yC_isChunk tp_bC_isChunk 2 (some .boolean))) := tp_goodV (by decide +kernel)
theorem tp_gC_isDegraded : GoodIn tp_TB (wsV tp_RC 153 tp_RC tp_yC_isDegraded (tp_wsT tp_yC_isDegraded tp_bC_isDegraded 2 (some .boolean))) := tp_goodV (by decide +kernel)
theorem tp_gC_isOn : GoodIn tp_TB (wsV tp_RC 73 tp_RC tp_yC_isOn (tp_wsT tp_yC_isOn tp_bC_isOn 3 (some .boolean))) := tp_goodV (by decide +kernel)
theorem tp_gC_isThere : GoodIn tp_TB (wsV tp_RC 39 tp_RC tp_yC_isThere (tp_wsT tp_yC_isThere tp_bC_isThere 2 (some .boolean))) := tp_goodV (by decide +kernel)
theorem tp_gC_leastChunkOn : GoodIn tp_TB (wsV tp_RC 100 tp_RC tp_yC_leastChunkOn (tp_wsT tp_yC_leastChunkOn tp_bC_leastChunkOn 3 (some .int))) := tp_goodV (by decide +kernel)
theorem tp_gC_leastUnusedNumber : GoodIn tp_TB (wsV tp_RC 128 tp_RC tp_yC_leastUnusedNumber (tp_wsT tp_yC_leastUnusedNumber tp_bC_leastUnusedNumber 2 (some .int))) := tp_goodV (by decide +kernel)
theorem tp_gC_makeRoomBeside : GoodIn tp_TB (wsV tp_RC 134 tp_RC tp_yC_makeRoomBeside (tp_wsT tp_yC_makeRoomBeside tp_bC_makeRoomBeside 4 (some .int))) := tp_goodV (by decide +kernel)
theorem tp_gC_makeRoomToMend : GoodIn tp_TB (wsV tp_RC 144 tp_RC tp_yC_makeRoomToMend (tp_wsT tp_yC_makeRoomToMend tp_bC_makeRoomToMend 2 (some .boolean))) := tp_goodV (by decide +kernel)
theorem tp_gC_makeRoomToMoveOff : GoodIn tp_TB (wsV tp_RC 150 tp_RC tp_yC_makeRoomToMoveOff (tp_wsT tp_yC_makeRoomToMoveOff tp_bC_makeRoomToMoveOff 3 (some .boolean))) := tp_goodV (by decide +kernel)
theorem tp_gC_mendOne : GoodIn tp_TB (wsV tp_RC 140 tp_RC tp_yC_mendOne (tp_wsT tp_yC_mendOne tp_bC_mendOne 3 (some .boolean))) := tp_goodV (by decide +kernel)
theorem tp_gC_moveCopy : GoodIn tp_TB (wsV tp_RC 124 tp_RC tp_yC_moveCopy (tp_wsT tp_yC_moveCopy tp_bC_moveCopy 4 none)) := tp_goodV (by decide +kernel)
theorem tp_gC_moveOneOff : GoodIn tp_TB (wsV tp_RC 147 tp_RC tp_yC_moveOneOff (tp_wsT tp_yC_moveOneOff tp_bC_moveOneOff 2 (some .boolean))) := tp_goodV (by decide +kernel)
theorem tp_gC_moveOneOffDisk : GoodIn tp_TB (wsV tp_RC 159 tp_RC tp_yC_moveOneOffDisk (tp_wsT tp_yC_moveOneOffDisk tp_bC_moveOneOffDisk 4 (some .boolean))) := tp_goodV (by decide +kernel)
theorem tp_gC_newChunk : GoodIn tp_TB (wsV tp_RC 49 tp_RC tp_yC_newChunk (tp_wsT tp_yC_newChunk tp_bC_newChunk 4 (some .int))) := tp_goodV (by decide +kernel)
theorem tp_gC_nextStep : GoodIn tp_TB (wsV tp_RC 93 tp_RC tp_yC_nextStep (tp_wsT tp_yC_nextStep tp_bC_nextStep 1 (some .int))) := tp_goodV (by decide +kernel)
theorem tp_gC_otherDiskWithRoom : GoodIn tp_TB (wsV tp_RC 162 tp_RC tp_yC_otherDiskWithRoom (tp_wsT tp_yC_otherDiskWithRoom tp_bC_otherDiskWithRoom 3 (some .int))) := tp_goodV (by decide +kernel)
theorem tp_gC_otherThan : GoodIn tp_TB (wsV tp_RC 115 tp_RC tp_yC_otherThan (tp_wsT tp_yC_otherThan tp_bC_otherThan 3 (some .int))) := tp_goodV (by decide +kernel)
theorem tp_gC_stays : GoodIn tp_TB (wsV tp_RC 109 tp_RC tp_yC_stays (tp_wsT tp_yC_stays tp_bC_stays 2 (some .boolean))) := tp_goodV (by decide +kernel)
theorem tp_gC_staysWithRoom : GoodIn tp_TB (wsV tp_RC 156 tp_RC tp_yC_staysWithRoom (tp_wsT tp_yC_staysWithRoom tp_bC_staysWithRoom 2 (some .boolean))) := tp_goodV (by decide +kernel)
theorem tp_gC_takeAway : GoodIn tp_TB (wsV tp_RC 77 tp_RC tp_yC_takeAway (tp_wsT tp_yC_takeAway tp_bC_takeAway 2 none)) := tp_goodV (by decide +kernel)
theorem tp_gL_C_about : GoodIn tp_TB (wsV tp_RL 57 tp_RC tp_yC_about (tp_wsT tp_yC_about tp_bC_about 3 (some .int))) := tp_goodV (by decide +kernel)
theorem tp_gL_C_chunk : GoodIn tp_TB (wsV tp_RL 19 tp_RC tp_yC_chunk (tp_wsT tp_yC_chunk tp_bC_chunk 2 (some .int))) := tp_goodV (by decide +kernel)
theorem tp_gL_C_chunks : GoodIn tp_TB (wsV tp_RL 25 tp_RC tp_yC_chunks (tp_wsT tp_yC_chunks tp_bC_chunks 4 (some .int))) := tp_goodV (by decide +kernel)
theorem tp_gL_C_count : GoodIn tp_TB (wsV tp_RL 60 tp_RC tp_yC_count (tp_wsT tp_yC_count tp_bC_count 2 (some .int))) := tp_goodV (by decide +kernel)
theorem tp_gL_C_disk : GoodIn tp_TB (wsV tp_RL 7 tp_RC tp_yC_disk (tp_wsT tp_yC_disk tp_bC_disk 3 none)) := tp_goodV (by decide +kernel)
theorem tp_gL_C_fail : GoodIn tp_TB (wsV tp_RL 40 tp_RC tp_yC_fail (tp_wsT tp_yC_fail tp_bC_fail 4 (some .int))) := tp_goodV (by decide +kernel)
theorem tp_gL_C_free : GoodIn tp_TB (wsV tp_RL 29 tp_RC tp_yC_free (tp_wsT tp_yC_free tp_bC_free 3 (some .int))) := tp_goodV (by decide +kernel)
theorem tp_gL_C_leave : GoodIn tp_TB (wsV tp_RL 43 tp_RC tp_yC_leave (tp_wsT tp_yC_leave tp_bC_leave 3 (some .int))) := tp_goodV (by decide +kernel)
theorem tp_gL_C_place : GoodIn tp_TB (wsV tp_RL 53 tp_RC tp_yC_place (tp_wsT tp_yC_place tp_bC_place 3 (some .int))) := tp_goodV (by decide +kernel)
theorem tp_gL_C_read : GoodIn tp_TB (wsV tp_RL 36 tp_RC tp_yC_read (tp_wsT tp_yC_read tp_bC_read 3 (some .int))) := tp_goodV (by decide +kernel)
theorem tp_gL_C_stay : GoodIn tp_TB (wsV tp_RL 46 tp_RC tp_yC_stay (tp_wsT tp_yC_stay tp_bC_stay 2 none)) := tp_goodV (by decide +kernel)
theorem tp_gL_C_step : GoodIn tp_TB (wsV tp_RL 105 tp_RC tp_yC_step (tp_wsT tp_yC_step tp_bC_step 1 (some .int))) := tp_goodV (by decide +kernel)
theorem tp_gL_C_steps : GoodIn tp_TB (wsV tp_RL 50 tp_RC tp_yC_steps (tp_wsT tp_yC_steps tp_bC_steps 4 (some .int))) := tp_goodV (by decide +kernel)
theorem tp_gL_C_write : GoodIn tp_TB (wsV tp_RL 32 tp_RC tp_yC_write (tp_wsT tp_yC_write tp_bC_write 4 none)) := tp_goodV (by decide +kernel)
theorem tp_gL_M_about : GoodIn tp_TB (wsV tp_RL 118 tp_RM tp_yM_about (tp_wsT tp_yM_about tp_bM_about 4 (some .int))) := tp_goodV (by decide +kernel)
theorem tp_gL_M_chunk : GoodIn tp_TB (wsV tp_RL 79 tp_RM tp_yM_chunk (tp_wsT tp_yM_chunk tp_bM_chunk 2 (some .int))) := tp_goodV (by decide +kernel)
theorem tp_gL_M_chunks : GoodIn tp_TB (wsV tp_RL 83 tp_RM tp_yM_chunks (tp_wsT tp_yM_chunks tp_bM_chunks 3 (some .int))) := tp_goodV (by decide +kernel)
theorem tp_gL_M_count : GoodIn tp_TB (wsV tp_RL 121 tp_RM tp_yM_count (tp_wsT tp_yM_count tp_bM_count 5 (some .int))) := tp_goodV (by decide +kernel)
theorem tp_gL_M_disk : GoodIn tp_TB (wsV tp_RL 72 tp_RM tp_yM_disk (tp_wsT tp_yM_disk tp_bM_disk 3 none)) := tp_goodV (by decide +kernel)
theorem tp_gL_M_fail : GoodIn tp_TB (wsV tp_RL 97 tp_RM tp_yM_fail (tp_wsT tp_yM_fail tp_bM_fail 4 (some .int))) := tp_goodV (by decide +kernel)
theorem tp_gL_M_free : GoodIn tp_TB (wsV tp_RL 86 tp_RM tp_yM_free (tp_wsT tp_yM_free tp_bM_free 3 (some .int))) := tp_goodV (by decide +kernel)
theorem tp_gL_M_leave : GoodIn tp_TB (wsV tp_RL 100 tp_RM tp_yM_leave (tp_wsT tp_yM_leave tp_bM_leave 3 (some .int))) := tp_goodV (by decide +kernel)
theorem tp_gL_M_place : GoodIn tp_TB (wsV tp_RL 115 tp_RM tp_yM_place (tp_wsT tp_yM_place tp_bM_place 6 (some .int))) := tp_goodV (by decide +kernel)
theorem tp_gL_M_read : GoodIn tp_TB (wsV tp_RL 94 tp_RM tp_yM_read (tp_wsT tp_yM_read tp_bM_read 3 (some .int))) := tp_goodV (by decide +kernel)
theorem tp_gL_M_stay : GoodIn tp_TB (wsV tp_RL 104 tp_RM tp_yM_stay (tp_wsT tp_yM_stay tp_bM_stay 2 none)) := tp_goodV (by decide +kernel)
theorem tp_gL_M_step : GoodIn tp_TB (wsV tp_RL 108 tp_RM tp_yM_step (tp_wsT tp_yM_step tp_bM_step 1 (some .int))) := tp_goodV (by decide +kernel)
theorem tp_gL_M_steps : GoodIn tp_TB (wsV tp_RL 111 tp_RM tp_yM_steps (tp_wsT tp_yM_steps tp_bM_steps 4 (some .int))) := tp_goodV (by decide +kernel)
theorem tp_gL_M_thrown : GoodIn tp_TB (wsV tp_RL 73 tp_RM tp_yM_thrown (tp_wsT tp_yM_thrown tp_bM_thrown 1 (some .int))) := tp_goodV (by decide +kernel)
theorem tp_gL_M_write : GoodIn tp_TB (wsV tp_RL 90 tp_RM tp_yM_write (tp_wsT tp_yM_write tp_bM_write 4 none)) := tp_goodV (by decide +kernel)
theorem tp_gM_capacity : GoodIn tp_TB (wsV tp_RM 94 tp_RM tp_yM_capacity (tp_wsT tp_yM_capacity tp_bM_capacity 5 (some .int))) := tp_goodV (by decide +kernel)
theorem tp_gM_chunkCount : GoodIn tp_TB (wsV tp_RM 91 tp_RM tp_yM_chunkCount (tp_wsT tp_yM_chunkCount tp_bM_chunkCount 1 (some .int))) := tp_goodV (by decide +kernel)
theorem tp_gM_copyOne : GoodIn tp_TB (wsV tp_RM 74 tp_RM tp_yM_copyOne (tp_wsT tp_yM_copyOne tp_bM_copyOne 3 (some .boolean))) := tp_goodV (by decide +kernel)
theorem tp_gM_countWith : GoodIn tp_TB (wsV tp_RM 48 tp_RM tp_yM_countWith (tp_wsT tp_yM_countWith tp_bM_countWith 4 (some .int))) := tp_goodV (by decide +kernel)
theorem tp_gM_doStep : GoodIn tp_TB (wsV tp_RM 85 tp_RM tp_yM_doStep (tp_wsT tp_yM_doStep tp_bM_doStep 2 (some .int))) := tp_goodV (by decide +kernel)
theorem tp_gM_emptiest : GoodIn tp_TB (wsV tp_RM 54 tp_RM tp_yM_emptiest (tp_wsT tp_yM_emptiest tp_bM_emptiest 6 (some .int))) := tp_goodV (by decide +kernel)
theorem tp_gM_freeOn : GoodIn tp_TB (wsV tp_RM 42 tp_RM tp_yM_freeOn (tp_wsT tp_yM_freeOn tp_bM_freeOn 2 (some .int))) := tp_goodV (by decide +kernel)
theorem tp_gM_howMany : GoodIn tp_TB (wsV tp_RM 45 tp_RM tp_yM_howMany (tp_wsT tp_yM_howMany tp_bM_howMany 4 (some .int))) := tp_goodV (by decide +kernel)
theorem tp_gM_isChunk : GoodIn tp_TB (wsV tp_RM 65 tp_RM tp_yM_isChunk (tp_wsT tp_yM_isChunk tp_bM_isChunk 2 (some .boolean))) := tp_goodV (by decide +kernel)
theorem tp_gM_isDisk : GoodIn tp_TB (wsV tp_RM 88 tp_RM tp_yM_isDisk (tp_wsT tp_yM_isDisk tp_bM_isDisk 2 (some .boolean))) := tp_goodV (by decide +kernel)
theorem tp_gM_isOn : GoodIn tp_TB (wsV tp_RM 30 tp_RM tp_yM_isOn (tp_wsT tp_yM_isOn tp_bM_isOn 3 (some .boolean))) := tp_goodV (by decide +kernel)
theorem tp_gM_leaveOne : GoodIn tp_TB (wsV tp_RM 81 tp_RM tp_yM_leaveOne (tp_wsT tp_yM_leaveOne tp_bM_leaveOne 5 (some .boolean))) := tp_goodV (by decide +kernel)
theorem tp_gM_makeRoom : GoodIn tp_TB (wsV tp_RM 58 tp_RM tp_yM_makeRoom (tp_wsT tp_yM_makeRoom tp_bM_makeRoom 4 (some .int))) := tp_goodV (by decide +kernel)
theorem tp_gM_newChunk : GoodIn tp_TB (wsV tp_RM 61 tp_RM tp_yM_newChunk (tp_wsT tp_yM_newChunk tp_bM_newChunk 5 (some .int))) := tp_goodV (by decide +kernel)
theorem tp_gM_roomFor : GoodIn tp_TB (wsV tp_RM 71 tp_RM tp_yM_roomFor (tp_wsT tp_yM_roomFor tp_bM_roomFor 4 (some .boolean))) := tp_goodV (by decide +kernel)
theorem tp_gM_roomForOne : GoodIn tp_TB (wsV tp_RM 78 tp_RM tp_yM_roomForOne (tp_wsT tp_yM_roomForOne tp_bM_roomForOne 2 (some .boolean))) := tp_goodV (by decide +kernel)
theorem tp_gM_stays : GoodIn tp_TB (wsV tp_RM 38 tp_RM tp_yM_stays (tp_wsT tp_yM_stays tp_bM_stays 2 (some .boolean))) := tp_goodV (by decide +kernel)
theorem tp_gM_tidy : GoodIn tp_TB (wsV tp_RM 68 tp_RM tp_yM_tidy (tp_wsT tp_yM_tidy tp_bM_tidy 2 none)) := tp_goodV (by decide +kernel)
theorem tp_gM_used : GoodIn tp_TB (wsV tp_RM 34 tp_RM tp_yM_used (tp_wsT tp_yM_used tp_bM_used 4 (some .int))) := tp_goodV (by decide +kernel)
theorem tp_mM_max_C : Cond.methodLink tp_RC 112 Lib.Math.max.name ∈ tp_TB := tp_TB_1 (by decide +kernel)
theorem tp_mM_min_C : Cond.methodLink tp_RC 56 Lib.Math.min.name ∈ tp_TB := tp_TB_1 (by decide +kernel)
theorem tp_mM_max_st : Cond.static Lib.Math.max.name ∈ tp_TB := tp_TB_1 (by decide +kernel)
theorem tp_mM_max_code : Cond.code Lib.Math.max.name Lib.Math.max.code 2 (some .int) ∈ tp_TB := tp_TB_1 (by decide +kernel)
theorem tp_mM_min_st : Cond.static Lib.Math.min.name ∈ tp_TB := tp_TB_1 (by decide +kernel)
theorem tp_mM_min_code : Cond.code Lib.Math.min.name Lib.Math.min.code 2 (some .int) ∈ tp_TB := tp_TB_1 (by decide +kernel)
theorem tp_mM_ini : Cond.initialized "java/lang/Math" ∈ tp_TB := tp_TB_1 (by decide +kernel)
theorem tp_kC_96 : Cond.constant tp_RC 96 1000000 ∈ tp_TB := tp_TB_1 (by decide +kernel)
theorem tp_xC_1 : tp_xOK tp_RC 36 38 (tp_xN 1) := ⟨by decide +kernel, by decide +kernel, by decide +kernel, by decide +kernel⟩
theorem tp_xC_2 : tp_xOK tp_RC 43 45 (tp_xN 2) := ⟨by decide +kernel, by decide +kernel, by decide +kernel, by decide +kernel⟩
theorem tp_xC_3 : tp_xOK tp_RC 46 48 (tp_xN 3) := ⟨by decide +kernel, by decide +kernel, by decide +kernel, by decide +kernel⟩
theorem tp_xC_4 : tp_xOK tp_RC 53 55 (tp_xN 4) := ⟨by decide +kernel, by decide +kernel, by decide +kernel, by decide +kernel⟩
end
section
set_option maxHeartbeats 4000000 in
set_option maxRecDepth 100000 in
theorem cC_isThere (l : Launch) (D : va_G) (h : Nat) (a : Nat → Nat) (cI cZ : ClassId) (sz : Nat) (σ : tp_St) (x1 : Int32) (r : Int32) (hr : fC_isThere σ x1 = some r) : Met l tp_yC_isThere (tp_wsT tp_yC_isThere tp_bC_isThere 2 (some .boolean)) { frames := 0, cells := 0, slots := 0, locals := 0 } (tp_PcW D [(cI, .int), (cZ, .boolean)] (tp_wC h a cI cZ σ) sz [.ref h, .int x1]) (tp_qI r) 0 0 tp_noF := by
  refine Met.ofW (cc := tp_bC_isThere) (maxL := 2) (ret := (some .boolean)) (by decide) rfl ?_
  intro p e s m args below meth c s₁ B hml hv
  obtain ⟨rfl, hsz, hP, hK, hD0⟩ := hv
  have hx := B.exec
  have hb := B.bytes
  have hrt := B.returns
  have hTB : ∀ w ∈ tp_TB, w.before _ s = true := fun w z => atoms_spec (ws := (tp_wsT tp_yC_isThere tp_bC_isThere 2 (some .boolean))) B.pre w (List.mem_cons_of_mem _ z)
  have hown : s.vm.findClass tp_RC = some m.cls := findClass_of_methodNamed B.named
  have hlocks := B.notSynchronized
  have S : CallFix p m c tp_bC_isThere 2 s _ tp_TB tp_RC := ⟨hx, hb, hml, hown, hTB⟩
  subst hsz
  have hD : va_D (va_A (tp_wC h a cI cZ σ) s.heap.size) (tp_wC h a cI cZ σ) := hD0.self
  have hl := lv_entry ([.ref h, .int x1]) (n := 2) (Nat.le_of_ble_eq_true rfl)
  rw [lg_entry_eq]
  generalize (lg_sl ([.ref h, .int x1]) ++ List.replicate (2 - (lg_sl ([.ref h, .int x1])).length) Slot.unset).toArray = ls at hl ⊢
  have hl : lv_has ls 2 [(0, .ref h), (1, .int x1)] := hl
  rw [fC_isThere] at hr
  refine lv_iload_n hx hb dC_isThere_0 rfl (lv_at hl 1 rfl) ?_
  refine lv_if_lt (tgt := 23) hx hb dC_isThere_1 (by decide) (fun hc1 => ?_) (fun hc1 => ?_)
  · replace hr := (if_pos hc1).symm.trans hr
    refine lv_iconst (v := 0) hx hb dC_isThere_23 (by decide) ?_
    obtain rfl := Option.some.inj hr
    exact W.zret (v := 0) hx hb hrt (by decide) (fun t ht _ => ⟨rfl, ht⟩) (fun _ z => nomatch z) dC_isThere_24 hlocks
  · replace hr := (if_neg hc1).symm.trans hr
    refine lv_iload_n hx hb dC_isThere_4 rfl (lv_at hl 1 rfl) ?_
    refine lv_bipush (v := 12) hx hb dC_isThere_5 (by decide) ?_
    refine lv_icmp_ge (tgt := 23) hx hb dC_isThere_7 (by decide) (fun hc2 => ?_) (fun hc2 => ?_)
    · replace hr := (if_pos hc2).symm.trans hr
      refine lv_iconst (v := 0) hx hb dC_isThere_23 (by decide) ?_
      obtain rfl := Option.some.inj hr
      exact W.zret (v := 0) hx hb hrt (by decide) (fun t ht _ => ⟨rfl, ht⟩) (fun _ z => nomatch z) dC_isThere_24 hlocks
    · replace hr := (if_neg hc2).symm.trans hr
      refine lv_aload_n hx hb dC_isThere_10 rfl (lv_at hl 0 rfl) ?_
      refine tp_gtC S hK hP 0 (by decide) (v := .ref (a 0)) tp_mC_f0 rfl dC_isThere_11 ?_
      refine lv_iload_n hx hb dC_isThere_14 rfl (lv_at hl 1 rfl) ?_
      by_cases hb3 : tp_oob x1 12
      · exact nomatch ((if_pos hb3).symm.trans hr)
      replace hr := (if_neg hb3).symm.trans hr
      refine va_iald hx hb hK hP 1 0 rfl rfl hb3 dC_isThere_15 ?_
      refine lv_if_le (tgt := 23) hx hb dC_isThere_16 (by decide) (fun hc4 => ?_) (fun hc4 => ?_)
      · replace hr := (if_pos hc4).symm.trans hr
        refine lv_iconst (v := 0) hx hb dC_isThere_23 (by decide) ?_
        obtain rfl := Option.some.inj hr
        exact W.zret (v := 0) hx hb hrt (by decide) (fun t ht _ => ⟨rfl, ht⟩) (fun _ z => nomatch z) dC_isThere_24 hlocks
      · replace hr := (if_neg hc4).symm.trans hr
        refine lv_iconst (v := 1) hx hb dC_isThere_19 (by decide) ?_
        refine lv_goto (tgt := 24) hx hb dC_isThere_20 (by decide) ?_
        obtain rfl := Option.some.inj hr
        exact W.zret (v := 1) hx hb hrt (by decide) (fun t ht _ => ⟨rfl, ht⟩) (fun _ z => nomatch z) dC_isThere_24 hlocks
set_option maxHeartbeats 4000000 in
set_option maxRecDepth 100000 in
theorem cC_disk (l : Launch) (hl0 : l.stackTraces = false) (D : va_G) (h : Nat) (a : Nat → Nat) (cI cZ : ClassId) (sz : Nat) (σ : tp_St) (x1 : Int32) (x2 : Int32) (r : (Nat × Int32 × tp_St)) (hr : fC_disk σ x1 x2 = some r) : vx_Met l tp_yC_disk (tp_wsT tp_yC_disk tp_bC_disk 3 none) { frames := 6, cells := 1, slots := 6, locals := 89 } (tp_PcX D [(cI, .int), (cZ, .boolean)] (tp_wC h a cI cZ σ) sz [.ref h, .int x1, .int x2]) (tp_qNC D h a cI cZ r (va_A (tp_wC h a cI cZ σ) sz)) (tp_qXC [1, 2, 3] D h a cI cZ r (va_A (tp_wC h a cI cZ σ) sz)) 1 6 (va_A (tp_wC h a cI cZ σ) sz) := by
  refine vx_ofW (cc := tp_bC_disk) (maxL := 3) (ret := none) (by decide) rfl ?_
  intro p e s m args below meth c s₁ B hml hnoh0 hv
  obtain ⟨rfl, hsz, hP, hK, hD0, hX⟩ := hv
  have hnoh : ∀ (x : ExceptionTableEntry), x ∈ c.exceptionTable.toList → False := hnoh0
  have hx := B.exec
  have hb := B.bytes
  have hrt := B.returns
  have hTB : ∀ w ∈ tp_TB, w.before _ s = true := fun w z => atoms_spec (ws := (tp_wsT tp_yC_disk tp_bC_disk 3 none)) B.pre w (List.mem_cons_of_mem _ z)
  have hown : s.vm.findClass tp_RC = some m.cls := findClass_of_methodNamed B.named
  have hlocks := B.notSynchronized
  have S : CallFix p m c tp_bC_disk 3 s _ tp_TB tp_RC := ⟨hx, hb, hml, hown, hTB⟩
  subst hsz
  have hD : va_D (va_A (tp_wC h a cI cZ σ) s.heap.size) (tp_wC h a cI cZ σ) := hD0.self
  have hA : ∀ q : Nat, s.heap.size ≤ q → va_A (tp_wC h a cI cZ σ) s.heap.size q := fun q z => Or.inr z
  have hS : va_S (va_A (tp_wC h a cI cZ σ) s.heap.size) s.heap s.heap [] := va_S.rf
  have hl := lv_entry ([.ref h, .int x1, .int x2]) (n := 3) (Nat.le_of_ble_eq_true rfl)
  rw [lg_entry_eq]
  generalize (lg_sl ([.ref h, .int x1, .int x2]) ++ List.replicate (3 - (lg_sl ([.ref h, .int x1, .int x2])).length) Slot.unset).toArray = ls at hl ⊢
  have hl : lv_has ls 3 [(0, .ref h), (1, .int x1), (2, .int x2)] := hl
  rw [fC_disk] at hr
  refine lv_iload_n hx hb dC_disk_0 rfl (lv_at hl 1 rfl) ?_
  refine lv_if_lt (tgt := 10) hx hb dC_disk_1 (by decide) (fun hc1 => ?_) (fun hc1 => ?_)
  · replace hr := (if_pos hc1).symm.trans hr
    obtain rfl := Option.some.inj hr
    exact tp_thrC (k := 1) hx hb hl0 hown (by decide) tp_xC_1 hTB hX hS hP (hl.1.trans hml.symm) dC_disk_10 dC_disk_13 dC_disk_14 dC_disk_17 hnoh (Nat.le_of_ble_eq_true rfl) (Nat.le_of_ble_eq_true rfl) (Nat.le_of_ble_eq_true rfl) (Nat.le_of_ble_eq_true rfl) hlocks
  · replace hr := (if_neg hc1).symm.trans hr
    refine lv_iload_n hx hb dC_disk_4 rfl (lv_at hl 1 rfl) ?_
    refine lv_bipush (v := 12) hx hb dC_disk_5 (by decide) ?_
    refine lv_icmp_lt (tgt := 18) hx hb dC_disk_7 (by decide) (fun hc2 => ?_) (fun hc2 => ?_)
    · replace hr := (if_pos hc2).symm.trans hr
      refine lv_aload_n hx hb dC_disk_18 rfl (lv_at hl 0 rfl) ?_
      refine lv_iload_n hx hb dC_disk_19 rfl (lv_at hl 1 rfl) ?_
      obtain ⟨q3, hq4, hr⟩ := Option.bind_eq_some_iff.mp hr
      refine tp_kP (rest := []) S hK hP hD rfl rfl (cC_isThere l D h a cI cZ _ σ x1 q3 hq4) (cwV 1 hTB tp_gC_isThere rfl rfl rfl ⟨rfl, by decide, by decide, by decide +kernel⟩ ⟨Nat.le_of_ble_eq_true rfl, Nat.le_of_ble_eq_true rfl⟩) rfl hl.1 rfl (Nat.le_of_ble_eq_true rfl) dC_disk_20 ⟨Nat.zero_le _, Nat.zero_le _⟩ ?_
      refine lv_if_eq (tgt := 34) hx hb dC_disk_23 (by decide) (fun hc5 => ?_) (fun hc5 => ?_)
      · replace hr := (if_pos hc5).symm.trans hr
        refine lv_iload_n hx hb dC_disk_34 rfl (lv_at hl 2 rfl) ?_
        refine lv_iconst (v := 1) hx hb dC_disk_35 (by decide) ?_
        refine lv_icmp_lt (tgt := 46) hx hb dC_disk_36 (by decide) (fun hc6 => ?_) (fun hc6 => ?_)
        · replace hr := (if_pos hc6).symm.trans hr
          obtain rfl := Option.some.inj hr
          exact tp_thrC (k := 3) hx hb hl0 hown (by decide) tp_xC_3 hTB hX hS hP (hl.1.trans hml.symm) dC_disk_46 dC_disk_49 dC_disk_50 dC_disk_53 hnoh (Nat.le_of_ble_eq_true rfl) (Nat.le_of_ble_eq_true rfl) (Nat.le_of_ble_eq_true rfl) (Nat.le_of_ble_eq_true rfl) hlocks
        · replace hr := (if_neg hc6).symm.trans hr
          refine lv_iload_n hx hb dC_disk_39 rfl (lv_at hl 2 rfl) ?_
          refine lv_sipush (v := 200) hx hb dC_disk_40 (by decide) ?_
          refine lv_icmp_le (tgt := 54) hx hb dC_disk_43 (by decide) (fun hc7 => ?_) (fun hc7 => ?_)
          · replace hr := (if_pos hc7).symm.trans hr
            refine lv_aload_n hx hb dC_disk_54 rfl (lv_at hl 0 rfl) ?_
            refine tp_gtC S hK hP 0 (by decide) (v := .ref (a 0)) tp_mC_f0 rfl dC_disk_55 ?_
            refine lv_iload_n hx hb dC_disk_58 rfl (lv_at hl 1 rfl) ?_
            refine lv_iload_n hx hb dC_disk_59 rfl (lv_at hl 2 rfl) ?_
            by_cases hb8 : tp_oob x1 12
            · exact nomatch ((if_pos hb8).symm.trans hr)
            replace hr := (if_neg hb8).symm.trans hr
            refine tp_asC0 S hK hP hD hS hb8 dC_disk_60 (fun H locs hP hD hS => ?_)
            obtain rfl := Option.some.inj hr
            refine vx_ret (W.widen (k := 1) (n := 6) (Nat.zero_le _) (Nat.zero_le _) ?_)
            exact W.vret hx hb hrt (fun t ht _ => ⟨⟨(tp_up σ 0 x1.toNatClampNeg x2), rfl, rfl, by show va_P D tp_CL _ t.heap; rw [ht]; exact hP⟩, hS.F ht⟩) hS.2.2 dC_disk_61 hlocks
          · replace hr := (if_neg hc7).symm.trans hr
            obtain rfl := Option.some.inj hr
            exact tp_thrC (k := 3) hx hb hl0 hown (by decide) tp_xC_3 hTB hX hS hP (hl.1.trans hml.symm) dC_disk_46 dC_disk_49 dC_disk_50 dC_disk_53 hnoh (Nat.le_of_ble_eq_true rfl) (Nat.le_of_ble_eq_true rfl) (Nat.le_of_ble_eq_true rfl) (Nat.le_of_ble_eq_true rfl) hlocks
      · replace hr := (if_neg hc5).symm.trans hr
        obtain rfl := Option.some.inj hr
        exact tp_thrC (k := 2) hx hb hl0 hown (by decide) tp_xC_2 hTB hX hS hP (hl.1.trans hml.symm) dC_disk_26 dC_disk_29 dC_disk_30 dC_disk_33 hnoh (Nat.le_of_ble_eq_true rfl) (Nat.le_of_ble_eq_true rfl) (Nat.le_of_ble_eq_true rfl) (Nat.le_of_ble_eq_true rfl) hlocks
    · replace hr := (if_neg hc2).symm.trans hr
      obtain rfl := Option.some.inj hr
      exact tp_thrC (k := 1) hx hb hl0 hown (by decide) tp_xC_1 hTB hX hS hP (hl.1.trans hml.symm) dC_disk_10 dC_disk_13 dC_disk_14 dC_disk_17 hnoh (Nat.le_of_ble_eq_true rfl) (Nat.le_of_ble_eq_true rfl) (Nat.le_of_ble_eq_true rfl) (Nat.le_of_ble_eq_true rfl) hlocks
set_option maxHeartbeats 4000000 in
set_option maxRecDepth 100000 in
theorem cC_leastUnusedNumber (l : Launch) (D : va_G) (h : Nat) (a : Nat → Nat) (cI cZ : ClassId) (sz : Nat) (σ : tp_St) (r : Int32) (hr : fC_leastUnusedNumber σ = some r) : Met l tp_yC_leastUnusedNumber (tp_wsT tp_yC_leastUnusedNumber tp_bC_leastUnusedNumber 2 (some .int)) { frames := 0, cells := 0, slots := 0, locals := 0 } (tp_PcW D [(cI, .int), (cZ, .boolean)] (tp_wC h a cI cZ σ) sz [.ref h]) (tp_qI r) 0 0 tp_noF := by
  refine Met.ofW (cc := tp_bC_leastUnusedNumber) (maxL := 2) (ret := (some .int)) (by decide) rfl ?_
  intro p e s m args below meth c s₁ B hml hv
  obtain ⟨rfl, hsz, hP, hK, hD0⟩ := hv
  have hx := B.exec
  have hb := B.bytes
  have hrt := B.returns
  have hTB : ∀ w ∈ tp_TB, w.before _ s = true := fun w z => atoms_spec (ws := (tp_wsT tp_yC_leastUnusedNumber tp_bC_leastUnusedNumber 2 (some .int))) B.pre w (List.mem_cons_of_mem _ z)
  have hown : s.vm.findClass tp_RC = some m.cls := findClass_of_methodNamed B.named
  have hlocks := B.notSynchronized
  have S : CallFix p m c tp_bC_leastUnusedNumber 2 s _ tp_TB tp_RC := ⟨hx, hb, hml, hown, hTB⟩
  subst hsz
  have hD : va_D (va_A (tp_wC h a cI cZ σ) s.heap.size) (tp_wC h a cI cZ σ) := hD0.self
  have hl := lv_entry ([.ref h]) (n := 2) (Nat.le_of_ble_eq_true rfl)
  rw [lg_entry_eq]
  generalize (lg_sl ([.ref h]) ++ List.replicate (2 - (lg_sl ([.ref h])).length) Slot.unset).toArray = ls at hl ⊢
  have hl : lv_has ls 2 [(0, .ref h)] := hl
  rw [fC_leastUnusedNumber] at hr
  refine lv_iconst (v := 0) hx hb dC_leastUnusedNumber_0 (by decide) ?_
  refine lv_istore_n hx hb dC_leastUnusedNumber_1 rfl hl (by decide) rfl (fun ls hl => ?_)
  have hl : lv_has ls 2 [(1, .int 0), (0, .ref h)] := hl
  have loop2 : ∀ (n2 : Nat) (x1 : Int32) (ls : Array Slot), fC_leastUnusedNumber_L2 σ  n2 x1 = some r → lv_has ls 2 [(0, .ref h), (1, .int x1)] → W p l e { frames := 0, cells := 0, slots := 0, locals := 0 } s m (([.ref h] : List Value).toArray) below meth c s.heap [] 0 0 (MQ below (tp_qI r) (([.ref h] : List Value).toArray) s 0 0 tp_noF) (F0 m 2 ls []) := by
    intro n2
    induction n2 with
    | zero => intro x1 ls hr hl; exact nomatch (show (none : Option Int32) = some r from hr)
    | succ n2 ih2 =>
      intro x1 ls hr hl
      rw [fC_leastUnusedNumber_L2] at hr
      refine lv_iload_n hx hb dC_leastUnusedNumber_2 rfl (lv_at hl 1 rfl) ?_
      refine lv_sipush (v := 400) hx hb dC_leastUnusedNumber_3 (by decide) ?_
      refine lv_icmp_ge (tgt := 26) hx hb dC_leastUnusedNumber_6 (by decide) (fun hc1 => ?_) (fun hc1 => ?_)
      · replace hr := (if_pos hc1).symm.trans hr
        refine lv_iconst (v := (-1)) hx hb dC_leastUnusedNumber_26 (by decide) ?_
        obtain rfl := Option.some.inj hr
        exact W.iret (v := (-1)) hx hb hrt (fun t ht _ => ⟨rfl, ht⟩) (fun _ z => nomatch z) dC_leastUnusedNumber_27 hlocks
      · replace hr := (if_neg hc1).symm.trans hr
        refine lv_aload_n hx hb dC_leastUnusedNumber_9 rfl (lv_at hl 0 rfl) ?_
        refine tp_gtC S hK hP 3 (by decide) (v := .ref (a 3)) tp_mC_f3 rfl dC_leastUnusedNumber_10 ?_
        refine lv_iload_n hx hb dC_leastUnusedNumber_13 rfl (lv_at hl 1 rfl) ?_
        by_cases hb2 : tp_oob x1 400
        · exact nomatch ((if_pos hb2).symm.trans hr)
        replace hr := (if_neg hb2).symm.trans hr
        refine va_zald hx hb hK hP 4 1 rfl rfl hb2 dC_leastUnusedNumber_14 ?_
        refine lv_if_ne (tgt := 20) hx hb dC_leastUnusedNumber_15 (by decide) (fun hc3 => ?_) (fun hc3 => ?_)
        · replace hr := (if_neg hc3).symm.trans hr
          refine lv_iinc (k := 1) (v := (x1 + 1)) hx hb dC_leastUnusedNumber_20 hl rfl (tp_ii1 _) (by decide) rfl (fun ls hl => ?_)
          have hl : lv_has ls 2 [(1, .int (x1 + 1)), (0, .ref h)] := hl
          refine lv_goto (tgt := 2) hx hb dC_leastUnusedNumber_23 (by decide) ?_
          exact ih2 (x1 + 1) ls hr (lv_sub hl [1, 0] rfl)
        · replace hr := (if_pos hc3).symm.trans hr
          refine lv_iload_n hx hb dC_leastUnusedNumber_18 rfl (lv_at hl 1 rfl) ?_
          obtain rfl := Option.some.inj hr
          exact W.iret (v := x1) hx hb hrt (fun t ht _ => ⟨rfl, ht⟩) (fun _ z => nomatch z) dC_leastUnusedNumber_19 hlocks
  exact loop2 401 0 ls hr (lv_sub hl [1, 0] rfl)
set_option maxHeartbeats 4000000 in
set_option maxRecDepth 100000 in
theorem cC_stays (l : Launch) (D : va_G) (h : Nat) (a : Nat → Nat) (cI cZ : ClassId) (sz : Nat) (σ : tp_St) (x1 : Int32) (r : Int32) (hr : fC_stays σ x1 = some r) : Met l tp_yC_stays (tp_wsT tp_yC_stays tp_bC_stays 2 (some .boolean)) { frames := 1, cells := 0, slots := 0, locals := 21 } (tp_PcW D [(cI, .int), (cZ, .boolean)] (tp_wC h a cI cZ σ) sz [.ref h, .int x1]) (tp_qI r) 0 0 tp_noF := by
  refine Met.ofW (cc := tp_bC_stays) (maxL := 2) (ret := (some .boolean)) (by decide) rfl ?_
  intro p e s m args below meth c s₁ B hml hv
  obtain ⟨rfl, hsz, hP, hK, hD0⟩ := hv
  have hx := B.exec
  have hb := B.bytes
  have hrt := B.returns
  have hTB : ∀ w ∈ tp_TB, w.before _ s = true := fun w z => atoms_spec (ws := (tp_wsT tp_yC_stays tp_bC_stays 2 (some .boolean))) B.pre w (List.mem_cons_of_mem _ z)
  have hown : s.vm.findClass tp_RC = some m.cls := findClass_of_methodNamed B.named
  have hlocks := B.notSynchronized
  have S : CallFix p m c tp_bC_stays 2 s _ tp_TB tp_RC := ⟨hx, hb, hml, hown, hTB⟩
  subst hsz
  have hD : va_D (va_A (tp_wC h a cI cZ σ) s.heap.size) (tp_wC h a cI cZ σ) := hD0.self
  have hl := lv_entry ([.ref h, .int x1]) (n := 2) (Nat.le_of_ble_eq_true rfl)
  rw [lg_entry_eq]
  generalize (lg_sl ([.ref h, .int x1]) ++ List.replicate (2 - (lg_sl ([.ref h, .int x1])).length) Slot.unset).toArray = ls at hl ⊢
  have hl : lv_has ls 2 [(0, .ref h), (1, .int x1)] := hl
  rw [fC_stays] at hr
  refine lv_aload_n hx hb dC_stays_0 rfl (lv_at hl 0 rfl) ?_
  refine lv_iload_n hx hb dC_stays_1 rfl (lv_at hl 1 rfl) ?_
  obtain ⟨q1, hq2, hr⟩ := Option.bind_eq_some_iff.mp hr
  refine tp_kP (rest := []) S hK hP hD rfl rfl (cC_isThere l D h a cI cZ _ σ x1 q1 hq2) (cwV 1 hTB tp_gC_isThere rfl rfl rfl ⟨rfl, by decide, by decide, by decide +kernel⟩ ⟨Nat.le_of_ble_eq_true rfl, Nat.le_of_ble_eq_true rfl⟩) rfl hl.1 rfl (Nat.le_of_ble_eq_true rfl) dC_stays_2 ⟨Nat.zero_le _, Nat.zero_le _⟩ ?_
  refine lv_if_eq (tgt := 21) hx hb dC_stays_5 (by decide) (fun hc3 => ?_) (fun hc3 => ?_)
  · replace hr := (if_pos hc3).symm.trans hr
    refine lv_iconst (v := 0) hx hb dC_stays_21 (by decide) ?_
    obtain rfl := Option.some.inj hr
    exact W.zret (v := 0) hx hb hrt (by decide) (fun t ht _ => ⟨rfl, ht⟩) (fun _ z => nomatch z) dC_stays_22 hlocks
  · replace hr := (if_neg hc3).symm.trans hr
    refine lv_aload_n hx hb dC_stays_8 rfl (lv_at hl 0 rfl) ?_
    refine tp_gtC S hK hP 2 (by decide) (v := .ref (a 2)) tp_mC_f2 rfl dC_stays_9 ?_
    refine lv_iload_n hx hb dC_stays_12 rfl (lv_at hl 1 rfl) ?_
    by_cases hb4 : tp_oob x1 12
    · exact nomatch ((if_pos hb4).symm.trans hr)
    replace hr := (if_neg hb4).symm.trans hr
    refine va_zald hx hb hK hP 3 1 rfl rfl hb4 dC_stays_13 ?_
    refine lv_if_ne (tgt := 21) hx hb dC_stays_14 (by decide) (fun hc5 => ?_) (fun hc5 => ?_)
    · replace hr := (if_neg hc5).symm.trans hr
      refine lv_iconst (v := 0) hx hb dC_stays_21 (by decide) ?_
      obtain rfl := Option.some.inj hr
      exact W.zret (v := 0) hx hb hrt (by decide) (fun t ht _ => ⟨rfl, ht⟩) (fun _ z => nomatch z) dC_stays_22 hlocks
    · replace hr := (if_pos hc5).symm.trans hr
      refine lv_iconst (v := 1) hx hb dC_stays_17 (by decide) ?_
      refine lv_goto (tgt := 22) hx hb dC_stays_18 (by decide) ?_
      obtain rfl := Option.some.inj hr
      exact W.zret (v := 1) hx hb hrt (by decide) (fun t ht _ => ⟨rfl, ht⟩) (fun _ z => nomatch z) dC_stays_22 hlocks
set_option maxHeartbeats 4000000 in
set_option maxRecDepth 100000 in
theorem cC_freePlaces (l : Launch) (D : va_G) (h : Nat) (a : Nat → Nat) (cI cZ : ClassId) (sz : Nat) (σ : tp_St) (x1 : Int32) (r : Int32) (hr : fC_freePlaces σ x1 = some r) : Met l tp_yC_freePlaces (tp_wsT tp_yC_freePlaces tp_bC_freePlaces 2 (some .int)) { frames := 0, cells := 0, slots := 0, locals := 0 } (tp_PcW D [(cI, .int), (cZ, .boolean)] (tp_wC h a cI cZ σ) sz [.ref h, .int x1]) (tp_qI r) 0 0 tp_noF := by
  refine Met.ofW (cc := tp_bC_freePlaces) (maxL := 2) (ret := (some .int)) (by decide) rfl ?_
  intro p e s m args below meth c s₁ B hml hv
  obtain ⟨rfl, hsz, hP, hK, hD0⟩ := hv
  have hx := B.exec
  have hb := B.bytes
  have hrt := B.returns
  have hTB : ∀ w ∈ tp_TB, w.before _ s = true := fun w z => atoms_spec (ws := (tp_wsT tp_yC_freePlaces tp_bC_freePlaces 2 (some .int))) B.pre w (List.mem_cons_of_mem _ z)
  have hown : s.vm.findClass tp_RC = some m.cls := findClass_of_methodNamed B.named
  have hlocks := B.notSynchronized
  have S : CallFix p m c tp_bC_freePlaces 2 s _ tp_TB tp_RC := ⟨hx, hb, hml, hown, hTB⟩
  subst hsz
  have hD : va_D (va_A (tp_wC h a cI cZ σ) s.heap.size) (tp_wC h a cI cZ σ) := hD0.self
  have hl := lv_entry ([.ref h, .int x1]) (n := 2) (Nat.le_of_ble_eq_true rfl)
  rw [lg_entry_eq]
  generalize (lg_sl ([.ref h, .int x1]) ++ List.replicate (2 - (lg_sl ([.ref h, .int x1])).length) Slot.unset).toArray = ls at hl ⊢
  have hl : lv_has ls 2 [(0, .ref h), (1, .int x1)] := hl
  rw [fC_freePlaces] at hr
  refine lv_aload_n hx hb dC_freePlaces_0 rfl (lv_at hl 0 rfl) ?_
  refine tp_gtC S hK hP 0 (by decide) (v := .ref (a 0)) tp_mC_f0 rfl dC_freePlaces_1 ?_
  refine lv_iload_n hx hb dC_freePlaces_4 rfl (lv_at hl 1 rfl) ?_
  by_cases hb1 : tp_oob x1 12
  · exact nomatch ((if_pos hb1).symm.trans hr)
  replace hr := (if_neg hb1).symm.trans hr
  refine va_iald hx hb hK hP 1 0 rfl rfl hb1 dC_freePlaces_5 ?_
  refine lv_aload_n hx hb dC_freePlaces_6 rfl (lv_at hl 0 rfl) ?_
  refine tp_gtC S hK hP 1 (by decide) (v := .ref (a 1)) tp_mC_f1 rfl dC_freePlaces_7 ?_
  refine lv_iload_n hx hb dC_freePlaces_10 rfl (lv_at hl 1 rfl) ?_
  refine va_iald hx hb hK hP 2 0 rfl rfl hb1 dC_freePlaces_11 ?_
  refine lv_isub hx hb dC_freePlaces_12 ?_
  obtain rfl := Option.some.inj hr
  exact W.iret (v := ((σ 0 x1.toNatClampNeg) - (σ 1 x1.toNatClampNeg))) hx hb hrt (fun t ht _ => ⟨rfl, ht⟩) (fun _ z => nomatch z) dC_freePlaces_13 hlocks
set_option maxHeartbeats 4000000 in
set_option maxRecDepth 100000 in
theorem cC_emptiestBut (l : Launch) (D : va_G) (h : Nat) (a : Nat → Nat) (cI cZ : ClassId) (sz : Nat) (σ : tp_St) (x1 : Int32) (r : Int32) (hr : fC_emptiestBut σ x1 = some r) : Met l tp_yC_emptiestBut (tp_wsT tp_yC_emptiestBut tp_bC_emptiestBut 5 (some .int)) { frames := 2, cells := 0, slots := 0, locals := 42 } (tp_PcW D [(cI, .int), (cZ, .boolean)] (tp_wC h a cI cZ σ) sz [.ref h, .int x1]) (tp_qI r) 0 0 tp_noF := by
  refine Met.ofW (cc := tp_bC_emptiestBut) (maxL := 5) (ret := (some .int)) (by decide) rfl ?_
  intro p e s m args below meth c s₁ B hml hv
  obtain ⟨rfl, hsz, hP, hK, hD0⟩ := hv
  have hx := B.exec
  have hb := B.bytes
  have hrt := B.returns
  have hTB : ∀ w ∈ tp_TB, w.before _ s = true := fun w z => atoms_spec (ws := (tp_wsT tp_yC_emptiestBut tp_bC_emptiestBut 5 (some .int))) B.pre w (List.mem_cons_of_mem _ z)
  have hown : s.vm.findClass tp_RC = some m.cls := findClass_of_methodNamed B.named
  have hlocks := B.notSynchronized
  have S : CallFix p m c tp_bC_emptiestBut 5 s _ tp_TB tp_RC := ⟨hx, hb, hml, hown, hTB⟩
  subst hsz
  have hD : va_D (va_A (tp_wC h a cI cZ σ) s.heap.size) (tp_wC h a cI cZ σ) := hD0.self
  have hl := lv_entry ([.ref h, .int x1]) (n := 5) (Nat.le_of_ble_eq_true rfl)
  rw [lg_entry_eq]
  generalize (lg_sl ([.ref h, .int x1]) ++ List.replicate (5 - (lg_sl ([.ref h, .int x1])).length) Slot.unset).toArray = ls at hl ⊢
  have hl : lv_has ls 5 [(0, .ref h), (1, .int x1)] := hl
  rw [fC_emptiestBut] at hr
  refine lv_iconst (v := (-1)) hx hb dC_emptiestBut_0 (by decide) ?_
  refine lv_istore_n hx hb dC_emptiestBut_1 rfl hl (by decide) rfl (fun ls hl => ?_)
  have hl : lv_has ls 5 [(2, .int (-1)), (0, .ref h), (1, .int x1)] := hl
  refine lv_iconst (v := 0) hx hb dC_emptiestBut_2 (by decide) ?_
  refine lv_istore_n hx hb dC_emptiestBut_3 rfl hl (by decide) rfl (fun ls hl => ?_)
  have hl : lv_has ls 5 [(3, .int 0), (2, .int (-1)), (0, .ref h), (1, .int x1)] := hl
  refine lv_iconst (v := 0) hx hb dC_emptiestBut_4 (by decide) ?_
  refine lv_istore hx hb dC_emptiestBut_5 hl (by decide) rfl (fun ls hl => ?_)
  have hl : lv_has ls 5 [(4, .int 0), (3, .int 0), (2, .int (-1)), (0, .ref h), (1, .int x1)] := hl
  have loop7 : ∀ (n7 : Nat) (x2 : Int32) (x3 : Int32) (x4 : Int32) (ls : Array Slot), fC_emptiestBut_L7 σ x1 n7 x2 x3 x4 = some r → lv_has ls 5 [(0, .ref h), (1, .int x1), (2, .int x2), (3, .int x3), (4, .int x4)] → W p l e { frames := 2, cells := 0, slots := 0, locals := 42 } s m (([.ref h, .int x1] : List Value).toArray) below meth c s.heap [] 0 0 (MQ below (tp_qI r) (([.ref h, .int x1] : List Value).toArray) s 0 0 tp_noF) (F0 m 7 ls []) := by
    intro n7
    induction n7 with
    | zero => intro x2 x3 x4 ls hr hl; exact nomatch (show (none : Option Int32) = some r from hr)
    | succ n7 ih7 =>
      intro x2 x3 x4 ls hr hl
      rw [fC_emptiestBut_L7] at hr
      refine lv_iload hx hb dC_emptiestBut_7 (lv_at hl 4 rfl) ?_
      refine lv_bipush (v := 12) hx hb dC_emptiestBut_9 (by decide) ?_
      refine lv_icmp_ge (tgt := 55) hx hb dC_emptiestBut_11 (by decide) (fun hc1 => ?_) (fun hc1 => ?_)
      · replace hr := (if_pos hc1).symm.trans hr
        refine lv_iload_n hx hb dC_emptiestBut_55 rfl (lv_at hl 2 rfl) ?_
        obtain rfl := Option.some.inj hr
        exact W.iret (v := x2) hx hb hrt (fun t ht _ => ⟨rfl, ht⟩) (fun _ z => nomatch z) dC_emptiestBut_56 hlocks
      · replace hr := (if_neg hc1).symm.trans hr
        refine lv_iload hx hb dC_emptiestBut_14 (lv_at hl 4 rfl) ?_
        refine lv_iload_n hx hb dC_emptiestBut_16 rfl (lv_at hl 1 rfl) ?_
        refine lv_icmp_eq (tgt := 49) hx hb dC_emptiestBut_17 (by decide) (fun hc2 => ?_) (fun hc2 => ?_)
        · replace hr := (if_pos hc2).symm.trans hr
          refine lv_iinc (k := 4) (v := (x4 + 1)) hx hb dC_emptiestBut_49 hl rfl (tp_ii1 _) (by decide) rfl (fun ls hl => ?_)
          have hl : lv_has ls 5 [(4, .int (x4 + 1)), (0, .ref h), (1, .int x1), (2, .int x2), (3, .int x3)] := hl
          refine lv_goto (tgt := 7) hx hb dC_emptiestBut_52 (by decide) ?_
          exact ih7 x2 x3 (x4 + 1) ls hr (lv_sub hl [1, 2, 3, 4, 0] rfl)
        · replace hr := (if_neg hc2).symm.trans hr
          refine lv_aload_n hx hb dC_emptiestBut_20 rfl (lv_at hl 0 rfl) ?_
          refine lv_iload hx hb dC_emptiestBut_21 (lv_at hl 4 rfl) ?_
          obtain ⟨q3, hq4, hr⟩ := Option.bind_eq_some_iff.mp hr
          refine tp_kP (rest := []) S hK hP hD rfl rfl (cC_stays l D h a cI cZ _ σ x4 q3 hq4) (cwV 1 hTB tp_gC_stays rfl rfl rfl ⟨rfl, by decide, by decide, by decide +kernel⟩ ⟨Nat.le_of_ble_eq_true rfl, Nat.le_of_ble_eq_true rfl⟩) rfl hl.1 rfl (Nat.le_of_ble_eq_true rfl) dC_emptiestBut_23 ⟨Nat.zero_le _, Nat.zero_le _⟩ ?_
          refine lv_if_eq (tgt := 49) hx hb dC_emptiestBut_26 (by decide) (fun hc5 => ?_) (fun hc5 => ?_)
          · replace hr := (if_pos hc5).symm.trans hr
            refine lv_iinc (k := 4) (v := (x4 + 1)) hx hb dC_emptiestBut_49 hl rfl (tp_ii1 _) (by decide) rfl (fun ls hl => ?_)
            have hl : lv_has ls 5 [(4, .int (x4 + 1)), (0, .ref h), (1, .int x1), (2, .int x2), (3, .int x3)] := hl
            refine lv_goto (tgt := 7) hx hb dC_emptiestBut_52 (by decide) ?_
            exact ih7 x2 x3 (x4 + 1) ls hr (lv_sub hl [1, 2, 3, 4, 0] rfl)
          · replace hr := (if_neg hc5).symm.trans hr
            refine lv_aload_n hx hb dC_emptiestBut_29 rfl (lv_at hl 0 rfl) ?_
            refine lv_iload hx hb dC_emptiestBut_30 (lv_at hl 4 rfl) ?_
            obtain ⟨q6, hq7, hr⟩ := Option.bind_eq_some_iff.mp hr
            refine tp_kP (rest := []) S hK hP hD rfl rfl (cC_freePlaces l D h a cI cZ _ σ x4 q6 hq7) (cwV 1 hTB tp_gC_freePlaces rfl rfl rfl ⟨rfl, by decide, by decide, by decide +kernel⟩ ⟨Nat.le_of_ble_eq_true rfl, Nat.le_of_ble_eq_true rfl⟩) rfl hl.1 rfl (Nat.le_of_ble_eq_true rfl) dC_emptiestBut_32 ⟨Nat.zero_le _, Nat.zero_le _⟩ ?_
            refine lv_iload_n hx hb dC_emptiestBut_35 rfl (lv_at hl 3 rfl) ?_
            refine lv_icmp_le (tgt := 49) hx hb dC_emptiestBut_36 (by decide) (fun hc8 => ?_) (fun hc8 => ?_)
            · replace hr := (if_pos hc8).symm.trans hr
              refine lv_iinc (k := 4) (v := (x4 + 1)) hx hb dC_emptiestBut_49 hl rfl (tp_ii1 _) (by decide) rfl (fun ls hl => ?_)
              have hl : lv_has ls 5 [(4, .int (x4 + 1)), (0, .ref h), (1, .int x1), (2, .int x2), (3, .int x3)] := hl
              refine lv_goto (tgt := 7) hx hb dC_emptiestBut_52 (by decide) ?_
              exact ih7 x2 x3 (x4 + 1) ls hr (lv_sub hl [1, 2, 3, 4, 0] rfl)
            · replace hr := (if_neg hc8).symm.trans hr
              refine lv_iload hx hb dC_emptiestBut_39 (lv_at hl 4 rfl) ?_
              refine lv_istore_n hx hb dC_emptiestBut_41 rfl hl (by decide) rfl (fun ls hl => ?_)
              have hl : lv_has ls 5 [(2, .int x4), (0, .ref h), (1, .int x1), (3, .int x3), (4, .int x4)] := hl
              refine lv_aload_n hx hb dC_emptiestBut_42 rfl (lv_at hl 1 rfl) ?_
              refine lv_iload hx hb dC_emptiestBut_43 (lv_at hl 4 rfl) ?_
              obtain ⟨q9, hq10, hr⟩ := Option.bind_eq_some_iff.mp hr
              refine tp_kP (rest := []) S hK hP hD rfl rfl (cC_freePlaces l D h a cI cZ _ σ x4 q9 hq10) (cwV 1 hTB tp_gC_freePlaces rfl rfl rfl ⟨rfl, by decide, by decide, by decide +kernel⟩ ⟨Nat.le_of_ble_eq_true rfl, Nat.le_of_ble_eq_true rfl⟩) rfl hl.1 rfl (Nat.le_of_ble_eq_true rfl) dC_emptiestBut_45 ⟨Nat.zero_le _, Nat.zero_le _⟩ ?_
              refine lv_istore_n hx hb dC_emptiestBut_48 rfl hl (by decide) rfl (fun ls hl => ?_)
              have hl : lv_has ls 5 [(3, .int q9), (2, .int x4), (0, .ref h), (1, .int x1), (4, .int x4)] := hl
              refine lv_iinc (k := 4) (v := (x4 + 1)) hx hb dC_emptiestBut_49 hl rfl (tp_ii1 _) (by decide) rfl (fun ls hl => ?_)
              have hl : lv_has ls 5 [(4, .int (x4 + 1)), (3, .int q9), (2, .int x4), (0, .ref h), (1, .int x1)] := hl
              refine lv_goto (tgt := 7) hx hb dC_emptiestBut_52 (by decide) ?_
              exact ih7 x4 q9 (x4 + 1) ls hr (lv_sub hl [3, 4, 2, 1, 0] rfl)
  exact loop7 13 (-1) 0 0 ls hr (lv_sub hl [3, 4, 2, 1, 0] rfl)
set_option maxHeartbeats 4000000 in
set_option maxRecDepth 100000 in
theorem cC_isOn (l : Launch) (D : va_G) (h : Nat) (a : Nat → Nat) (cI cZ : ClassId) (sz : Nat) (σ : tp_St) (x1 : Int32) (x2 : Int32) (r : Int32) (hr : fC_isOn σ x1 x2 = some r) : Met l tp_yC_isOn (tp_wsT tp_yC_isOn tp_bC_isOn 3 (some .boolean)) { frames := 0, cells := 0, slots := 0, locals := 0 } (tp_PcW D [(cI, .int), (cZ, .boolean)] (tp_wC h a cI cZ σ) sz [.ref h, .int x1, .int x2]) (tp_qI r) 0 0 tp_noF := by
  refine Met.ofW (cc := tp_bC_isOn) (maxL := 3) (ret := (some .boolean)) (by decide) rfl ?_
  intro p e s m args below meth c s₁ B hml hv
  obtain ⟨rfl, hsz, hP, hK, hD0⟩ := hv
  have hx := B.exec
  have hb := B.bytes
  have hrt := B.returns
  have hTB : ∀ w ∈ tp_TB, w.before _ s = true := fun w z => atoms_spec (ws := (tp_wsT tp_yC_isOn tp_bC_isOn 3 (some .boolean))) B.pre w (List.mem_cons_of_mem _ z)
  have hown : s.vm.findClass tp_RC = some m.cls := findClass_of_methodNamed B.named
  have hlocks := B.notSynchronized
  have S : CallFix p m c tp_bC_isOn 3 s _ tp_TB tp_RC := ⟨hx, hb, hml, hown, hTB⟩
  subst hsz
  have hD : va_D (va_A (tp_wC h a cI cZ σ) s.heap.size) (tp_wC h a cI cZ σ) := hD0.self
  have hl := lv_entry ([.ref h, .int x1, .int x2]) (n := 3) (Nat.le_of_ble_eq_true rfl)
  rw [lg_entry_eq]
  generalize (lg_sl ([.ref h, .int x1, .int x2]) ++ List.replicate (3 - (lg_sl ([.ref h, .int x1, .int x2])).length) Slot.unset).toArray = ls at hl ⊢
  have hl : lv_has ls 3 [(0, .ref h), (1, .int x1), (2, .int x2)] := hl
  rw [fC_isOn] at hr
  refine lv_aload_n hx hb dC_isOn_0 rfl (lv_at hl 0 rfl) ?_
  refine tp_gtC S hK hP 4 (by decide) (v := .ref (a 4)) tp_mC_f4 rfl dC_isOn_1 ?_
  refine lv_iload_n hx hb dC_isOn_4 rfl (lv_at hl 1 rfl) ?_
  by_cases hb1 : tp_oob x1 400
  · exact nomatch ((if_pos hb1).symm.trans hr)
  replace hr := (if_neg hb1).symm.trans hr
  refine va_iald hx hb hK hP 5 0 rfl rfl hb1 dC_isOn_5 ?_
  refine lv_iload_n hx hb dC_isOn_6 rfl (lv_at hl 2 rfl) ?_
  refine lv_icmp_eq (tgt := 20) hx hb dC_isOn_7 (by decide) (fun hc2 => ?_) (fun hc2 => ?_)
  · replace hr := (if_pos hc2).symm.trans hr
    refine lv_iconst (v := 1) hx hb dC_isOn_20 (by decide) ?_
    refine lv_goto (tgt := 25) hx hb dC_isOn_21 (by decide) ?_
    obtain rfl := Option.some.inj hr
    exact W.zret (v := 1) hx hb hrt (by decide) (fun t ht _ => ⟨rfl, ht⟩) (fun _ z => nomatch z) dC_isOn_25 hlocks
  · replace hr := (if_neg hc2).symm.trans hr
    refine lv_aload_n hx hb dC_isOn_10 rfl (lv_at hl 0 rfl) ?_
    refine tp_gtC S hK hP 5 (by decide) (v := .ref (a 5)) tp_mC_f5 rfl dC_isOn_11 ?_
    refine lv_iload_n hx hb dC_isOn_14 rfl (lv_at hl 1 rfl) ?_
    refine va_iald hx hb hK hP 6 0 rfl rfl hb1 dC_isOn_15 ?_
    refine lv_iload_n hx hb dC_isOn_16 rfl (lv_at hl 2 rfl) ?_
    refine lv_icmp_ne (tgt := 24) hx hb dC_isOn_17 (by decide) (fun hc3 => ?_) (fun hc3 => ?_)
    · replace hr := (if_neg hc3).symm.trans hr
      refine lv_iconst (v := 0) hx hb dC_isOn_24 (by decide) ?_
      obtain rfl := Option.some.inj hr
      exact W.zret (v := 0) hx hb hrt (by decide) (fun t ht _ => ⟨rfl, ht⟩) (fun _ z => nomatch z) dC_isOn_25 hlocks
    · replace hr := (if_pos hc3).symm.trans hr
      refine lv_iconst (v := 1) hx hb dC_isOn_20 (by decide) ?_
      refine lv_goto (tgt := 25) hx hb dC_isOn_21 (by decide) ?_
      obtain rfl := Option.some.inj hr
      exact W.zret (v := 1) hx hb hrt (by decide) (fun t ht _ => ⟨rfl, ht⟩) (fun _ z => nomatch z) dC_isOn_25 hlocks
set_option maxHeartbeats 4000000 in
set_option maxRecDepth 100000 in
theorem cC_copyForRoom (l : Launch) (D : va_G) (h : Nat) (a : Nat → Nat) (cI cZ : ClassId) (sz : Nat) (σ : tp_St) (x1 : Int32) (x2 : Int32) (r : Int32) (hr : fC_copyForRoom σ x1 x2 = some r) : Met l tp_yC_copyForRoom (tp_wsT tp_yC_copyForRoom tp_bC_copyForRoom 3 (some .int)) { frames := 2, cells := 0, slots := 0, locals := 42 } (tp_PcW D [(cI, .int), (cZ, .boolean)] (tp_wC h a cI cZ σ) sz [.ref h, .int x1, .int x2]) (tp_qI r) 0 0 tp_noF := by
  refine Met.ofW (cc := tp_bC_copyForRoom) (maxL := 3) (ret := (some .int)) (by decide) rfl ?_
  intro p e s m args below meth c s₁ B hml hv
  obtain ⟨rfl, hsz, hP, hK, hD0⟩ := hv
  have hx := B.exec
  have hb := B.bytes
  have hrt := B.returns
  have hTB : ∀ w ∈ tp_TB, w.before _ s = true := fun w z => atoms_spec (ws := (tp_wsT tp_yC_copyForRoom tp_bC_copyForRoom 3 (some .int))) B.pre w (List.mem_cons_of_mem _ z)
  have hown : s.vm.findClass tp_RC = some m.cls := findClass_of_methodNamed B.named
  have hlocks := B.notSynchronized
  have S : CallFix p m c tp_bC_copyForRoom 3 s _ tp_TB tp_RC := ⟨hx, hb, hml, hown, hTB⟩
  subst hsz
  have hD : va_D (va_A (tp_wC h a cI cZ σ) s.heap.size) (tp_wC h a cI cZ σ) := hD0.self
  have hl := lv_entry ([.ref h, .int x1, .int x2]) (n := 3) (Nat.le_of_ble_eq_true rfl)
  rw [lg_entry_eq]
  generalize (lg_sl ([.ref h, .int x1, .int x2]) ++ List.replicate (3 - (lg_sl ([.ref h, .int x1, .int x2])).length) Slot.unset).toArray = ls at hl ⊢
  have hl : lv_has ls 3 [(0, .ref h), (1, .int x1), (2, .int x2)] := hl
  rw [fC_copyForRoom] at hr
  refine lv_aload_n hx hb dC_copyForRoom_0 rfl (lv_at hl 0 rfl) ?_
  refine lv_iload_n hx hb dC_copyForRoom_1 rfl (lv_at hl 1 rfl) ?_
  refine lv_iload_n hx hb dC_copyForRoom_2 rfl (lv_at hl 2 rfl) ?_
  obtain ⟨q1, hq2, hr⟩ := Option.bind_eq_some_iff.mp hr
  refine tp_kP (rest := []) S hK hP hD rfl rfl (cC_isOn l D h a cI cZ _ σ x1 x2 q1 hq2) (cwV 2 hTB tp_gC_isOn rfl rfl rfl ⟨rfl, by decide, by decide, by decide +kernel⟩ ⟨Nat.le_of_ble_eq_true rfl, Nat.le_of_ble_eq_true rfl⟩) rfl hl.1 rfl (Nat.le_of_ble_eq_true rfl) dC_copyForRoom_3 ⟨Nat.zero_le _, Nat.zero_le _⟩ ?_
  refine lv_if_eq (tgt := 11) hx hb dC_copyForRoom_6 (by decide) (fun hc3 => ?_) (fun hc3 => ?_)
  · replace hr := (if_pos hc3).symm.trans hr
    refine lv_aload_n hx hb dC_copyForRoom_11 rfl (lv_at hl 0 rfl) ?_
    refine lv_aload_n hx hb dC_copyForRoom_12 rfl (lv_at hl 0 rfl) ?_
    refine tp_gtC S hK hP 4 (by decide) (v := .ref (a 4)) tp_mC_f4 rfl dC_copyForRoom_13 ?_
    refine lv_iload_n hx hb dC_copyForRoom_16 rfl (lv_at hl 1 rfl) ?_
    by_cases hb4 : tp_oob x1 400
    · exact nomatch ((if_pos hb4).symm.trans hr)
    replace hr := (if_neg hb4).symm.trans hr
    refine va_iald hx hb hK hP 5 0 rfl rfl hb4 dC_copyForRoom_17 ?_
    obtain ⟨q5, hq6, hr⟩ := Option.bind_eq_some_iff.mp hr
    refine tp_kP (rest := []) S hK hP hD rfl rfl (cC_stays l D h a cI cZ _ σ (σ 4 x1.toNatClampNeg) q5 hq6) (cwV 1 hTB tp_gC_stays rfl rfl rfl ⟨rfl, by decide, by decide, by decide +kernel⟩ ⟨Nat.le_of_ble_eq_true rfl, Nat.le_of_ble_eq_true rfl⟩) rfl hl.1 rfl (Nat.le_of_ble_eq_true rfl) dC_copyForRoom_18 ⟨Nat.zero_le _, Nat.zero_le _⟩ ?_
    refine lv_if_eq (tgt := 31) hx hb dC_copyForRoom_21 (by decide) (fun hc7 => ?_) (fun hc7 => ?_)
    · replace hr := (if_pos hc7).symm.trans hr
      refine lv_aload_n hx hb dC_copyForRoom_31 rfl (lv_at hl 0 rfl) ?_
      refine lv_aload_n hx hb dC_copyForRoom_32 rfl (lv_at hl 0 rfl) ?_
      refine tp_gtC S hK hP 5 (by decide) (v := .ref (a 5)) tp_mC_f5 rfl dC_copyForRoom_33 ?_
      refine lv_iload_n hx hb dC_copyForRoom_36 rfl (lv_at hl 1 rfl) ?_
      refine va_iald hx hb hK hP 6 0 rfl rfl hb4 dC_copyForRoom_37 ?_
      obtain ⟨q8, hq9, hr⟩ := Option.bind_eq_some_iff.mp hr
      refine tp_kP (rest := []) S hK hP hD rfl rfl (cC_stays l D h a cI cZ _ σ (σ 5 x1.toNatClampNeg) q8 hq9) (cwV 1 hTB tp_gC_stays rfl rfl rfl ⟨rfl, by decide, by decide, by decide +kernel⟩ ⟨Nat.le_of_ble_eq_true rfl, Nat.le_of_ble_eq_true rfl⟩) rfl hl.1 rfl (Nat.le_of_ble_eq_true rfl) dC_copyForRoom_38 ⟨Nat.zero_le _, Nat.zero_le _⟩ ?_
      refine lv_if_eq (tgt := 53) hx hb dC_copyForRoom_41 (by decide) (fun hc10 => ?_) (fun hc10 => ?_)
      · replace hr := (if_pos hc10).symm.trans hr
        refine lv_iconst (v := (-1)) hx hb dC_copyForRoom_53 (by decide) ?_
        obtain rfl := Option.some.inj hr
        exact W.iret (v := (-1)) hx hb hrt (fun t ht _ => ⟨rfl, ht⟩) (fun _ z => nomatch z) dC_copyForRoom_54 hlocks
      · replace hr := (if_neg hc10).symm.trans hr
        refine lv_aload_n hx hb dC_copyForRoom_44 rfl (lv_at hl 0 rfl) ?_
        refine tp_gtC S hK hP 5 (by decide) (v := .ref (a 5)) tp_mC_f5 rfl dC_copyForRoom_45 ?_
        refine lv_iload_n hx hb dC_copyForRoom_48 rfl (lv_at hl 1 rfl) ?_
        refine va_iald hx hb hK hP 6 0 rfl rfl hb4 dC_copyForRoom_49 ?_
        refine lv_goto (tgt := 54) hx hb dC_copyForRoom_50 (by decide) ?_
        obtain rfl := Option.some.inj hr
        exact W.iret (v := (σ 5 x1.toNatClampNeg)) hx hb hrt (fun t ht _ => ⟨rfl, ht⟩) (fun _ z => nomatch z) dC_copyForRoom_54 hlocks
    · replace hr := (if_neg hc7).symm.trans hr
      refine lv_aload_n hx hb dC_copyForRoom_24 rfl (lv_at hl 0 rfl) ?_
      refine tp_gtC S hK hP 4 (by decide) (v := .ref (a 4)) tp_mC_f4 rfl dC_copyForRoom_25 ?_
      refine lv_iload_n hx hb dC_copyForRoom_28 rfl (lv_at hl 1 rfl) ?_
      refine va_iald hx hb hK hP 5 0 rfl rfl hb4 dC_copyForRoom_29 ?_
      obtain rfl := Option.some.inj hr
      exact W.iret (v := (σ 4 x1.toNatClampNeg)) hx hb hrt (fun t ht _ => ⟨rfl, ht⟩) (fun _ z => nomatch z) dC_copyForRoom_30 hlocks
  · replace hr := (if_neg hc3).symm.trans hr
    refine lv_iconst (v := (-1)) hx hb dC_copyForRoom_9 (by decide) ?_
    obtain rfl := Option.some.inj hr
    exact W.iret (v := (-1)) hx hb hrt (fun t ht _ => ⟨rfl, ht⟩) (fun _ z => nomatch z) dC_copyForRoom_10 hlocks
set_option maxHeartbeats 4000000 in
set_option maxRecDepth 100000 in
theorem cC_otherThan (l : Launch) (D : va_G) (h : Nat) (a : Nat → Nat) (cI cZ : ClassId) (sz : Nat) (σ : tp_St) (x1 : Int32) (x2 : Int32) (r : Int32) (hr : fC_otherThan σ x1 x2 = some r) : Met l tp_yC_otherThan (tp_wsT tp_yC_otherThan tp_bC_otherThan 3 (some .int)) { frames := 0, cells := 0, slots := 0, locals := 0 } (tp_PcW D [(cI, .int), (cZ, .boolean)] (tp_wC h a cI cZ σ) sz [.ref h, .int x1, .int x2]) (tp_qI r) 0 0 tp_noF := by
  refine Met.ofW (cc := tp_bC_otherThan) (maxL := 3) (ret := (some .int)) (by decide) rfl ?_
  intro p e s m args below meth c s₁ B hml hv
  obtain ⟨rfl, hsz, hP, hK, hD0⟩ := hv
  have hx := B.exec
  have hb := B.bytes
  have hrt := B.returns
  have hTB : ∀ w ∈ tp_TB, w.before _ s = true := fun w z => atoms_spec (ws := (tp_wsT tp_yC_otherThan tp_bC_otherThan 3 (some .int))) B.pre w (List.mem_cons_of_mem _ z)
  have hown : s.vm.findClass tp_RC = some m.cls := findClass_of_methodNamed B.named
  have hlocks := B.notSynchronized
  have S : CallFix p m c tp_bC_otherThan 3 s _ tp_TB tp_RC := ⟨hx, hb, hml, hown, hTB⟩
  subst hsz
  have hD : va_D (va_A (tp_wC h a cI cZ σ) s.heap.size) (tp_wC h a cI cZ σ) := hD0.self
  have hl := lv_entry ([.ref h, .int x1, .int x2]) (n := 3) (Nat.le_of_ble_eq_true rfl)
  rw [lg_entry_eq]
  generalize (lg_sl ([.ref h, .int x1, .int x2]) ++ List.replicate (3 - (lg_sl ([.ref h, .int x1, .int x2])).length) Slot.unset).toArray = ls at hl ⊢
  have hl : lv_has ls 3 [(0, .ref h), (1, .int x1), (2, .int x2)] := hl
  rw [fC_otherThan] at hr
  refine lv_aload_n hx hb dC_otherThan_0 rfl (lv_at hl 0 rfl) ?_
  refine tp_gtC S hK hP 4 (by decide) (v := .ref (a 4)) tp_mC_f4 rfl dC_otherThan_1 ?_
  refine lv_iload_n hx hb dC_otherThan_4 rfl (lv_at hl 1 rfl) ?_
  by_cases hb1 : tp_oob x1 400
  · exact nomatch ((if_pos hb1).symm.trans hr)
  replace hr := (if_neg hb1).symm.trans hr
  refine va_iald hx hb hK hP 5 0 rfl rfl hb1 dC_otherThan_5 ?_
  refine lv_iload_n hx hb dC_otherThan_6 rfl (lv_at hl 2 rfl) ?_
  refine lv_icmp_ne (tgt := 19) hx hb dC_otherThan_7 (by decide) (fun hc2 => ?_) (fun hc2 => ?_)
  · replace hr := (if_neg hc2).symm.trans hr
    refine lv_aload_n hx hb dC_otherThan_19 rfl (lv_at hl 0 rfl) ?_
    refine tp_gtC S hK hP 4 (by decide) (v := .ref (a 4)) tp_mC_f4 rfl dC_otherThan_20 ?_
    refine lv_iload_n hx hb dC_otherThan_23 rfl (lv_at hl 1 rfl) ?_
    refine va_iald hx hb hK hP 5 0 rfl rfl hb1 dC_otherThan_24 ?_
    obtain rfl := Option.some.inj hr
    exact W.iret (v := (σ 4 x1.toNatClampNeg)) hx hb hrt (fun t ht _ => ⟨rfl, ht⟩) (fun _ z => nomatch z) dC_otherThan_25 hlocks
  · replace hr := (if_pos hc2).symm.trans hr
    refine lv_aload_n hx hb dC_otherThan_10 rfl (lv_at hl 0 rfl) ?_
    refine tp_gtC S hK hP 5 (by decide) (v := .ref (a 5)) tp_mC_f5 rfl dC_otherThan_11 ?_
    refine lv_iload_n hx hb dC_otherThan_14 rfl (lv_at hl 1 rfl) ?_
    refine va_iald hx hb hK hP 6 0 rfl rfl hb1 dC_otherThan_15 ?_
    refine lv_goto (tgt := 25) hx hb dC_otherThan_16 (by decide) ?_
    obtain rfl := Option.some.inj hr
    exact W.iret (v := (σ 5 x1.toNatClampNeg)) hx hb hrt (fun t ht _ => ⟨rfl, ht⟩) (fun _ z => nomatch z) dC_otherThan_25 hlocks
set_option maxHeartbeats 4000000 in
set_option maxRecDepth 100000 in
theorem cC_hasLeft (l : Launch) (D : va_G) (h : Nat) (a : Nat → Nat) (cI cZ : ClassId) (sz : Nat) (σ : tp_St) (x1 : Int32) (r : Int32) (hr : fC_hasLeft σ x1 = some r) : Met l tp_yC_hasLeft (tp_wsT tp_yC_hasLeft tp_bC_hasLeft 2 (some .boolean)) { frames := 0, cells := 0, slots := 0, locals := 0 } (tp_PcW D [(cI, .int), (cZ, .boolean)] (tp_wC h a cI cZ σ) sz [.ref h, .int x1]) (tp_qI r) 0 0 tp_noF := by
  refine Met.ofW (cc := tp_bC_hasLeft) (maxL := 2) (ret := (some .boolean)) (by decide) rfl ?_
  intro p e s m args below meth c s₁ B hml hv
  obtain ⟨rfl, hsz, hP, hK, hD0⟩ := hv
  have hx := B.exec
  have hb := B.bytes
  have hrt := B.returns
  have hTB : ∀ w ∈ tp_TB, w.before _ s = true := fun w z => atoms_spec (ws := (tp_wsT tp_yC_hasLeft tp_bC_hasLeft 2 (some .boolean))) B.pre w (List.mem_cons_of_mem _ z)
  have hown : s.vm.findClass tp_RC = some m.cls := findClass_of_methodNamed B.named
  have hlocks := B.notSynchronized
  have S : CallFix p m c tp_bC_hasLeft 2 s _ tp_TB tp_RC := ⟨hx, hb, hml, hown, hTB⟩
  subst hsz
  have hD : va_D (va_A (tp_wC h a cI cZ σ) s.heap.size) (tp_wC h a cI cZ σ) := hD0.self
  have hl := lv_entry ([.ref h, .int x1]) (n := 2) (Nat.le_of_ble_eq_true rfl)
  rw [lg_entry_eq]
  generalize (lg_sl ([.ref h, .int x1]) ++ List.replicate (2 - (lg_sl ([.ref h, .int x1])).length) Slot.unset).toArray = ls at hl ⊢
  have hl : lv_has ls 2 [(0, .ref h), (1, .int x1)] := hl
  rw [fC_hasLeft] at hr
  refine lv_aload_n hx hb dC_hasLeft_0 rfl (lv_at hl 0 rfl) ?_
  refine tp_gtC S hK hP 2 (by decide) (v := .ref (a 2)) tp_mC_f2 rfl dC_hasLeft_1 ?_
  refine lv_iload_n hx hb dC_hasLeft_4 rfl (lv_at hl 1 rfl) ?_
  by_cases hb1 : tp_oob x1 12
  · exact nomatch ((if_pos hb1).symm.trans hr)
  replace hr := (if_neg hb1).symm.trans hr
  refine va_zald hx hb hK hP 3 1 rfl rfl hb1 dC_hasLeft_5 ?_
  refine lv_if_eq (tgt := 22) hx hb dC_hasLeft_6 (by decide) (fun hc2 => ?_) (fun hc2 => ?_)
  · replace hr := (if_pos hc2).symm.trans hr
    refine lv_iconst (v := 0) hx hb dC_hasLeft_22 (by decide) ?_
    obtain rfl := Option.some.inj hr
    exact W.zret (v := 0) hx hb hrt (by decide) (fun t ht _ => ⟨rfl, ht⟩) (fun _ z => nomatch z) dC_hasLeft_23 hlocks
  · replace hr := (if_neg hc2).symm.trans hr
    refine lv_aload_n hx hb dC_hasLeft_9 rfl (lv_at hl 0 rfl) ?_
    refine tp_gtC S hK hP 1 (by decide) (v := .ref (a 1)) tp_mC_f1 rfl dC_hasLeft_10 ?_
    refine lv_iload_n hx hb dC_hasLeft_13 rfl (lv_at hl 1 rfl) ?_
    refine va_iald hx hb hK hP 2 0 rfl rfl hb1 dC_hasLeft_14 ?_
    refine lv_if_ne (tgt := 22) hx hb dC_hasLeft_15 (by decide) (fun hc3 => ?_) (fun hc3 => ?_)
    · replace hr := (if_neg hc3).symm.trans hr
      refine lv_iconst (v := 0) hx hb dC_hasLeft_22 (by decide) ?_
      obtain rfl := Option.some.inj hr
      exact W.zret (v := 0) hx hb hrt (by decide) (fun t ht _ => ⟨rfl, ht⟩) (fun _ z => nomatch z) dC_hasLeft_23 hlocks
    · replace hr := (if_pos hc3).symm.trans hr
      refine lv_iconst (v := 1) hx hb dC_hasLeft_18 (by decide) ?_
      refine lv_goto (tgt := 23) hx hb dC_hasLeft_19 (by decide) ?_
      obtain rfl := Option.some.inj hr
      exact W.zret (v := 1) hx hb hrt (by decide) (fun t ht _ => ⟨rfl, ht⟩) (fun _ z => nomatch z) dC_hasLeft_23 hlocks
end
section
set_option maxHeartbeats 4000000 in
set_option maxRecDepth 100000 in
theorem cC_takeAway (l : Launch) (D : va_G) (h : Nat) (a : Nat → Nat) (cI cZ : ClassId) (sz : Nat) (σ : tp_St) (x1 : Int32) (r : tp_St) (hr : fC_takeAway σ x1 = some r) : Met l tp_yC_takeAway (tp_wsT tp_yC_takeAway tp_bC_takeAway 2 none) { frames := 0, cells := 0, slots := 0, locals := 0 } (tp_PcW D [(cI, .int), (cZ, .boolean)] (tp_wC h a cI cZ σ) sz [.ref h, .int x1]) (tp_qW none D (tp_wC h a cI cZ r) (va_A (tp_wC h a cI cZ σ) sz)) 0 0 (va_A (tp_wC h a cI cZ σ) sz) := by
  refine Met.ofW (cc := tp_bC_takeAway) (maxL := 2) (ret := none) (by decide) rfl ?_
  intro p e s m args below meth c s₁ B hml hv
  obtain ⟨rfl, hsz, hP, hK, hD0⟩ := hv
  have hx := B.exec
  have hb := B.bytes
  have hrt := B.returns
  have hTB : ∀ w ∈ tp_TB, w.before _ s = true := fun w z => atoms_spec (ws := (tp_wsT tp_yC_takeAway tp_bC_takeAway 2 none)) B.pre w (List.mem_cons_of_mem _ z)
  have hown : s.vm.findClass tp_RC = some m.cls := findClass_of_methodNamed B.named
  have hlocks := B.notSynchronized
  have S : CallFix p m c tp_bC_takeAway 2 s _ tp_TB tp_RC := ⟨hx, hb, hml, hown, hTB⟩
  subst hsz
  have hD : va_D (va_A (tp_wC h a cI cZ σ) s.heap.size) (tp_wC h a cI cZ σ) := hD0.self
  have hA : ∀ q : Nat, s.heap.size ≤ q → va_A (tp_wC h a cI cZ σ) s.heap.size q := fun q z => Or.inr z
  have hS : va_S (va_A (tp_wC h a cI cZ σ) s.heap.size) s.heap s.heap [] := va_S.rf
  have hl := lv_entry ([.ref h, .int x1]) (n := 2) (Nat.le_of_ble_eq_true rfl)
  rw [lg_entry_eq]
  generalize (lg_sl ([.ref h, .int x1]) ++ List.replicate (2 - (lg_sl ([.ref h, .int x1])).length) Slot.unset).toArray = ls at hl ⊢
  have hl : lv_has ls 2 [(0, .ref h), (1, .int x1)] := hl
  rw [fC_takeAway] at hr
  refine lv_aload_n hx hb dC_takeAway_0 rfl (lv_at hl 0 rfl) ?_
  refine tp_gtC S hK hP 0 (by decide) (v := .ref (a 0)) tp_mC_f0 rfl dC_takeAway_1 ?_
  refine lv_iload_n hx hb dC_takeAway_4 rfl (lv_at hl 1 rfl) ?_
  refine lv_iconst (v := 0) hx hb dC_takeAway_5 (by decide) ?_
  by_cases hb1 : tp_oob x1 12
  · exact nomatch ((if_pos hb1).symm.trans hr)
  replace hr := (if_neg hb1).symm.trans hr
  refine tp_asC0 S hK hP hD hS hb1 dC_takeAway_6 (fun H locs hP hD hS => ?_)
  refine lv_aload_n hx hb dC_takeAway_7 rfl (lv_at hl 0 rfl) ?_
  refine tp_gtC S hK hP 2 (by decide) (v := .ref (a 2)) tp_mC_f2 rfl dC_takeAway_8 ?_
  refine lv_iload_n hx hb dC_takeAway_11 rfl (lv_at hl 1 rfl) ?_
  refine lv_iconst (v := 0) hx hb dC_takeAway_12 (by decide) ?_
  refine tp_asC2 S hK hP hD hS hb1 dC_takeAway_13 (fun H locs hP hD hS => ?_)
  obtain rfl := Option.some.inj hr
  exact W.vret hx hb hrt (fun t ht _ => ⟨rfl, by rw [ht]; exact hP, hS.F ht⟩) hS.2.2 dC_takeAway_14 hlocks
set_option maxHeartbeats 4000000 in
set_option maxRecDepth 100000 in
theorem cC_dropCopy (l : Launch) (D : va_G) (h : Nat) (a : Nat → Nat) (cI cZ : ClassId) (sz : Nat) (σ : tp_St) (x1 : Int32) (x2 : Int32) (r : tp_St) (hr : fC_dropCopy σ x1 x2 = some r) : Met l tp_yC_dropCopy (tp_wsT tp_yC_dropCopy tp_bC_dropCopy 3 none) { frames := 1, cells := 0, slots := 0, locals := 22 } (tp_PcW D [(cI, .int), (cZ, .boolean)] (tp_wC h a cI cZ σ) sz [.ref h, .int x1, .int x2]) (tp_qW none D (tp_wC h a cI cZ r) (va_A (tp_wC h a cI cZ σ) sz)) 0 0 (va_A (tp_wC h a cI cZ σ) sz) := by
  refine Met.ofW (cc := tp_bC_dropCopy) (maxL := 3) (ret := none) (by decide) rfl ?_
  intro p e s m args below meth c s₁ B hml hv
  obtain ⟨rfl, hsz, hP, hK, hD0⟩ := hv
  have hx := B.exec
  have hb := B.bytes
  have hrt := B.returns
  have hTB : ∀ w ∈ tp_TB, w.before _ s = true := fun w z => atoms_spec (ws := (tp_wsT tp_yC_dropCopy tp_bC_dropCopy 3 none)) B.pre w (List.mem_cons_of_mem _ z)
  have hown : s.vm.findClass tp_RC = some m.cls := findClass_of_methodNamed B.named
  have hlocks := B.notSynchronized
  have S : CallFix p m c tp_bC_dropCopy 3 s _ tp_TB tp_RC := ⟨hx, hb, hml, hown, hTB⟩
  subst hsz
  have hD : va_D (va_A (tp_wC h a cI cZ σ) s.heap.size) (tp_wC h a cI cZ σ) := hD0.self
  have hA : ∀ q : Nat, s.heap.size ≤ q → va_A (tp_wC h a cI cZ σ) s.heap.size q := fun q z => Or.inr z
  have hS : va_S (va_A (tp_wC h a cI cZ σ) s.heap.size) s.heap s.heap [] := va_S.rf
  have hl := lv_entry ([.ref h, .int x1, .int x2]) (n := 3) (Nat.le_of_ble_eq_true rfl)
  rw [lg_entry_eq]
  generalize (lg_sl ([.ref h, .int x1, .int x2]) ++ List.replicate (3 - (lg_sl ([.ref h, .int x1, .int x2])).length) Slot.unset).toArray = ls at hl ⊢
  have hl : lv_has ls 3 [(0, .ref h), (1, .int x1), (2, .int x2)] := hl
  rw [fC_dropCopy] at hr
  refine lv_aload_n hx hb dC_dropCopy_0 rfl (lv_at hl 0 rfl) ?_
  refine tp_gtC S hK hP 4 (by decide) (v := .ref (a 4)) tp_mC_f4 rfl dC_dropCopy_1 ?_
  refine lv_iload_n hx hb dC_dropCopy_4 rfl (lv_at hl 1 rfl) ?_
  refine lv_aload_n hx hb dC_dropCopy_5 rfl (lv_at hl 0 rfl) ?_
  refine lv_iload_n hx hb dC_dropCopy_6 rfl (lv_at hl 1 rfl) ?_
  refine lv_iload_n hx hb dC_dropCopy_7 rfl (lv_at hl 2 rfl) ?_
  obtain ⟨q1, hq2, hr⟩ := Option.bind_eq_some_iff.mp hr
  refine tp_kP (rest := [.int x1, .ref (a 4)]) S hK hP hD rfl rfl (cC_otherThan l D h a cI cZ _ σ x1 x2 q1 hq2) (cwV 2 hTB tp_gC_otherThan rfl rfl rfl ⟨rfl, by decide, by decide, by decide +kernel⟩ ⟨Nat.le_of_ble_eq_true rfl, Nat.le_of_ble_eq_true rfl⟩) rfl hl.1 rfl (Nat.le_of_ble_eq_true rfl) dC_dropCopy_8 ⟨Nat.zero_le _, Nat.zero_le _⟩ ?_
  by_cases hb3 : tp_oob x1 400
  · exact nomatch ((if_pos hb3).symm.trans hr)
  replace hr := (if_neg hb3).symm.trans hr
  refine tp_asC4 S hK hP hD hS hb3 dC_dropCopy_11 (fun H locs hP hD hS => ?_)
  refine lv_aload_n hx hb dC_dropCopy_12 rfl (lv_at hl 0 rfl) ?_
  refine tp_gtC S hK hP 5 (by decide) (v := .ref (a 5)) tp_mC_f5 rfl dC_dropCopy_13 ?_
  refine lv_iload_n hx hb dC_dropCopy_16 rfl (lv_at hl 1 rfl) ?_
  refine lv_iconst (v := (-1)) hx hb dC_dropCopy_17 (by decide) ?_
  refine tp_asC5 S hK hP hD hS hb3 dC_dropCopy_18 (fun H locs hP hD hS => ?_)
  refine lv_aload_n hx hb dC_dropCopy_19 rfl (lv_at hl 0 rfl) ?_
  refine tp_gtC S hK hP 1 (by decide) (v := .ref (a 1)) tp_mC_f1 rfl dC_dropCopy_20 ?_
  refine lv_iload_n hx hb dC_dropCopy_23 rfl (lv_at hl 2 rfl) ?_
  refine lv_dup2_11 hx hb dC_dropCopy_24 rfl rfl ?_
  by_cases hb4 : tp_oob x2 12
  · exact nomatch ((if_pos hb4).symm.trans hr)
  replace hr := (if_neg hb4).symm.trans hr
  refine va_iald hx hb hK hP 2 0 rfl rfl hb4 dC_dropCopy_25 ?_
  refine lv_iconst (v := 1) hx hb dC_dropCopy_26 (by decide) ?_
  refine lv_isub hx hb dC_dropCopy_27 ?_
  refine tp_asC1 S hK hP hD hS hb4 dC_dropCopy_28 (fun H locs hP hD hS => ?_)
  refine lv_aload_n hx hb dC_dropCopy_29 rfl (lv_at hl 0 rfl) ?_
  refine lv_iload_n hx hb dC_dropCopy_30 rfl (lv_at hl 2 rfl) ?_
  obtain ⟨q5, hq6, hr⟩ := Option.bind_eq_some_iff.mp hr
  refine tp_kP (rest := []) S hK hP hD rfl rfl (cC_hasLeft l D h a cI cZ _ (tp_up (tp_up (tp_up σ 4 x1.toNatClampNeg q1) 5 x1.toNatClampNeg (-1)) 1 x2.toNatClampNeg (((tp_up (tp_up σ 4 x1.toNatClampNeg q1) 5 x1.toNatClampNeg (-1)) 1 x2.toNatClampNeg) - 1)) x2 q5 hq6) (cwV 1 hTB tp_gC_hasLeft rfl rfl rfl ⟨rfl, by decide, by decide, by decide +kernel⟩ ⟨Nat.le_of_ble_eq_true rfl, Nat.le_of_ble_eq_true rfl⟩) rfl hl.1 rfl (Nat.le_of_ble_eq_true rfl) dC_dropCopy_31 ⟨Nat.zero_le _, Nat.zero_le _⟩ ?_
  refine lv_if_eq (tgt := 42) hx hb dC_dropCopy_34 (by decide) (fun hc7 => ?_) (fun hc7 => ?_)
  · replace hr := (if_pos hc7).symm.trans hr
    obtain rfl := Option.some.inj hr
    exact W.vret hx hb hrt (fun t ht _ => ⟨rfl, by rw [ht]; exact hP, hS.F ht⟩) hS.2.2 dC_dropCopy_42 hlocks
  · replace hr := (if_neg hc7).symm.trans hr
    refine lv_aload_n hx hb dC_dropCopy_37 rfl (lv_at hl 0 rfl) ?_
    refine lv_iload_n hx hb dC_dropCopy_38 rfl (lv_at hl 2 rfl) ?_
    obtain ⟨q8, hq9, hr⟩ := Option.bind_eq_some_iff.mp hr
    refine tp_kV (rest := []) S hK hP hD hS hA rfl rfl (cC_takeAway l D h a cI cZ _ (tp_up (tp_up (tp_up σ 4 x1.toNatClampNeg q1) 5 x1.toNatClampNeg (-1)) 1 x2.toNatClampNeg (((tp_up (tp_up σ 4 x1.toNatClampNeg q1) 5 x1.toNatClampNeg (-1)) 1 x2.toNatClampNeg) - 1)) x2 q8 hq9) (cwV 1 hTB tp_gC_takeAway rfl rfl rfl ⟨rfl, by decide, by decide, by decide +kernel⟩ ⟨Nat.le_of_ble_eq_true rfl, Nat.le_of_ble_eq_true rfl⟩) rfl hl.1 rfl (Nat.le_of_ble_eq_true rfl) dC_dropCopy_39 ⟨Nat.zero_le _, Nat.zero_le _⟩ (fun H locs hP hS => ?_)
    have hP : va_P D tp_CL (tp_wC h a cI cZ q8) H := hP
    have hD : va_D (va_A (tp_wC h a cI cZ σ) s.heap.size) (tp_wC h a cI cZ q8) := tp_dre hD tp_wC_fst
    obtain rfl := Option.some.inj hr
    exact W.vret hx hb hrt (fun t ht _ => ⟨rfl, by rw [ht]; exact hP, hS.F ht⟩) hS.2.2 dC_dropCopy_42 hlocks
set_option maxHeartbeats 4000000 in
set_option maxRecDepth 100000 in
theorem cC_addCopy (l : Launch) (D : va_G) (h : Nat) (a : Nat → Nat) (cI cZ : ClassId) (sz : Nat) (σ : tp_St) (x1 : Int32) (x2 : Int32) (r : tp_St) (hr : fC_addCopy σ x1 x2 = some r) : Met l tp_yC_addCopy (tp_wsT tp_yC_addCopy tp_bC_addCopy 4 none) { frames := 1, cells := 0, slots := 0, locals := 21 } (tp_PcW D [(cI, .int), (cZ, .boolean)] (tp_wC h a cI cZ σ) sz [.ref h, .int x1, .int x2]) (tp_qW none D (tp_wC h a cI cZ r) (va_A (tp_wC h a cI cZ σ) sz)) 0 0 (va_A (tp_wC h a cI cZ σ) sz) := by
  refine Met.ofW (cc := tp_bC_addCopy) (maxL := 4) (ret := none) (by decide) rfl ?_
  intro p e s m args below meth c s₁ B hml hv
  obtain ⟨rfl, hsz, hP, hK, hD0⟩ := hv
  have hx := B.exec
  have hb := B.bytes
  have hrt := B.returns
  have hTB : ∀ w ∈ tp_TB, w.before _ s = true := fun w z => atoms_spec (ws := (tp_wsT tp_yC_addCopy tp_bC_addCopy 4 none)) B.pre w (List.mem_cons_of_mem _ z)
  have hown : s.vm.findClass tp_RC = some m.cls := findClass_of_methodNamed B.named
  have hlocks := B.notSynchronized
  have S : CallFix p m c tp_bC_addCopy 4 s _ tp_TB tp_RC := ⟨hx, hb, hml, hown, hTB⟩
  subst hsz
  have hD : va_D (va_A (tp_wC h a cI cZ σ) s.heap.size) (tp_wC h a cI cZ σ) := hD0.self
  have hA : ∀ q : Nat, s.heap.size ≤ q → va_A (tp_wC h a cI cZ σ) s.heap.size q := fun q z => Or.inr z
  have hS : va_S (va_A (tp_wC h a cI cZ σ) s.heap.size) s.heap s.heap [] := va_S.rf
  have hl := lv_entry ([.ref h, .int x1, .int x2]) (n := 4) (Nat.le_of_ble_eq_true rfl)
  rw [lg_entry_eq]
  generalize (lg_sl ([.ref h, .int x1, .int x2]) ++ List.replicate (4 - (lg_sl ([.ref h, .int x1, .int x2])).length) Slot.unset).toArray = ls at hl ⊢
  have hl : lv_has ls 4 [(0, .ref h), (1, .int x1), (2, .int x2)] := hl
  rw [fC_addCopy] at hr
  refine lv_aload_n hx hb dC_addCopy_0 rfl (lv_at hl 0 rfl) ?_
  refine tp_gtC S hK hP 4 (by decide) (v := .ref (a 4)) tp_mC_f4 rfl dC_addCopy_1 ?_
  refine lv_iload_n hx hb dC_addCopy_4 rfl (lv_at hl 1 rfl) ?_
  by_cases hb1 : tp_oob x1 400
  · exact nomatch ((if_pos hb1).symm.trans hr)
  replace hr := (if_neg hb1).symm.trans hr
  refine va_iald hx hb hK hP 5 0 rfl rfl hb1 dC_addCopy_5 ?_
  refine lv_istore_n hx hb dC_addCopy_6 rfl hl (by decide) rfl (fun ls hl => ?_)
  have hl : lv_has ls 4 [(3, .int (σ 4 x1.toNatClampNeg)), (0, .ref h), (1, .int x1), (2, .int x2)] := hl
  refine lv_iload_n hx hb dC_addCopy_7 rfl (lv_at hl 0 rfl) ?_
  refine lv_iconst (v := (-1)) hx hb dC_addCopy_8 (by decide) ?_
  refine lv_icmp_ne (tgt := 22) hx hb dC_addCopy_9 (by decide) (fun hc2 => ?_) (fun hc2 => ?_)
  · replace hr := (if_neg hc2).symm.trans hr
    refine lv_aload_n hx hb dC_addCopy_22 rfl (lv_at hl 1 rfl) ?_
    refine tp_gtC S hK hP 4 (by decide) (v := .ref (a 4)) tp_mC_f4 rfl dC_addCopy_23 ?_
    refine lv_iload_n hx hb dC_addCopy_26 rfl (lv_at hl 2 rfl) ?_
    refine lv_iload_n hx hb dC_addCopy_27 rfl (lv_at hl 0 rfl) ?_
    refine lv_iload_n hx hb dC_addCopy_28 rfl (lv_at hl 3 rfl) ?_
    refine va_mmin hx hb (hml.trans hl.1.symm) hown (hTB _ tp_mM_min_C) (hTB _ tp_mM_min_st) (hTB _ tp_mM_ini) (hTB _ tp_mM_min_code) (Nat.le_of_ble_eq_true rfl) (Nat.le_of_ble_eq_true rfl) (Nat.zero_le _) (Nat.zero_le _) dC_addCopy_29 ?_
    refine tp_asC4 S hK hP hD hS hb1 dC_addCopy_32 (fun H locs hP hD hS => ?_)
    refine lv_aload_n hx hb dC_addCopy_33 rfl (lv_at hl 1 rfl) ?_
    refine tp_gtC S hK hP 5 (by decide) (v := .ref (a 5)) tp_mC_f5 rfl dC_addCopy_34 ?_
    refine lv_iload_n hx hb dC_addCopy_37 rfl (lv_at hl 2 rfl) ?_
    refine lv_iload_n hx hb dC_addCopy_38 rfl (lv_at hl 0 rfl) ?_
    refine lv_iload_n hx hb dC_addCopy_39 rfl (lv_at hl 3 rfl) ?_
    refine va_mmax hx hb (hml.trans hl.1.symm) hown (hTB _ tp_mM_max_C) (hTB _ tp_mM_max_st) (hTB _ tp_mM_ini) (hTB _ tp_mM_max_code) (Nat.le_of_ble_eq_true rfl) (Nat.le_of_ble_eq_true rfl) (Nat.zero_le _) (Nat.zero_le _) dC_addCopy_40 ?_
    refine tp_asC5 S hK hP hD hS hb1 dC_addCopy_43 (fun H locs hP hD hS => ?_)
    refine lv_aload_n hx hb dC_addCopy_44 rfl (lv_at hl 1 rfl) ?_
    refine tp_gtC S hK hP 1 (by decide) (v := .ref (a 1)) tp_mC_f1 rfl dC_addCopy_45 ?_
    refine lv_iload_n hx hb dC_addCopy_48 rfl (lv_at hl 3 rfl) ?_
    refine lv_dup2_11 hx hb dC_addCopy_49 rfl rfl ?_
    by_cases hb3 : tp_oob x2 12
    · exact nomatch ((if_pos hb3).symm.trans hr)
    replace hr := (if_neg hb3).symm.trans hr
    refine va_iald hx hb hK hP 2 0 rfl rfl hb3 dC_addCopy_50 ?_
    refine lv_iconst (v := 1) hx hb dC_addCopy_51 (by decide) ?_
    refine lv_iadd hx hb dC_addCopy_52 ?_
    refine tp_asC1 S hK hP hD hS hb3 dC_addCopy_53 (fun H locs hP hD hS => ?_)
    obtain rfl := Option.some.inj hr
    exact W.vret hx hb hrt (fun t ht _ => ⟨rfl, by rw [ht]; exact hP, hS.F ht⟩) hS.2.2 dC_addCopy_54 hlocks
  · replace hr := (if_pos hc2).symm.trans hr
    refine lv_aload_n hx hb dC_addCopy_12 rfl (lv_at hl 1 rfl) ?_
    refine tp_gtC S hK hP 4 (by decide) (v := .ref (a 4)) tp_mC_f4 rfl dC_addCopy_13 ?_
    refine lv_iload_n hx hb dC_addCopy_16 rfl (lv_at hl 2 rfl) ?_
    refine lv_iload_n hx hb dC_addCopy_17 rfl (lv_at hl 3 rfl) ?_
    refine tp_asC4 S hK hP hD hS hb1 dC_addCopy_18 (fun H locs hP hD hS => ?_)
    refine lv_goto (tgt := 44) hx hb dC_addCopy_19 (by decide) ?_
    refine lv_aload_n hx hb dC_addCopy_44 rfl (lv_at hl 1 rfl) ?_
    refine tp_gtC S hK hP 1 (by decide) (v := .ref (a 1)) tp_mC_f1 rfl dC_addCopy_45 ?_
    refine lv_iload_n hx hb dC_addCopy_48 rfl (lv_at hl 3 rfl) ?_
    refine lv_dup2_11 hx hb dC_addCopy_49 rfl rfl ?_
    by_cases hb4 : tp_oob x2 12
    · exact nomatch ((if_pos hb4).symm.trans hr)
    replace hr := (if_neg hb4).symm.trans hr
    refine va_iald hx hb hK hP 2 0 rfl rfl hb4 dC_addCopy_50 ?_
    refine lv_iconst (v := 1) hx hb dC_addCopy_51 (by decide) ?_
    refine lv_iadd hx hb dC_addCopy_52 ?_
    refine tp_asC1 S hK hP hD hS hb4 dC_addCopy_53 (fun H locs hP hD hS => ?_)
    obtain rfl := Option.some.inj hr
    exact W.vret hx hb hrt (fun t ht _ => ⟨rfl, by rw [ht]; exact hP, hS.F ht⟩) hS.2.2 dC_addCopy_54 hlocks
set_option maxHeartbeats 4000000 in
set_option maxRecDepth 100000 in
theorem cC_moveCopy (l : Launch) (D : va_G) (h : Nat) (a : Nat → Nat) (cI cZ : ClassId) (sz : Nat) (σ : tp_St) (x1 : Int32) (x2 : Int32) (x3 : Int32) (r : tp_St) (hr : fC_moveCopy σ x1 x2 x3 = some r) : Met l tp_yC_moveCopy (tp_wsT tp_yC_moveCopy tp_bC_moveCopy 4 none) { frames := 2, cells := 0, slots := 0, locals := 44 } (tp_PcW D [(cI, .int), (cZ, .boolean)] (tp_wC h a cI cZ σ) sz [.ref h, .int x1, .int x2, .int x3]) (tp_qW none D (tp_wC h a cI cZ r) (va_A (tp_wC h a cI cZ σ) sz)) 0 0 (va_A (tp_wC h a cI cZ σ) sz) := by
  refine Met.ofW (cc := tp_bC_moveCopy) (maxL := 4) (ret := none) (by decide) rfl ?_
  intro p e s m args below meth c s₁ B hml hv
  obtain ⟨rfl, hsz, hP, hK, hD0⟩ := hv
  have hx := B.exec
  have hb := B.bytes
  have hrt := B.returns
  have hTB : ∀ w ∈ tp_TB, w.before _ s = true := fun w z => atoms_spec (ws := (tp_wsT tp_yC_moveCopy tp_bC_moveCopy 4 none)) B.pre w (List.mem_cons_of_mem _ z)
  have hown : s.vm.findClass tp_RC = some m.cls := findClass_of_methodNamed B.named
  have hlocks := B.notSynchronized
  have S : CallFix p m c tp_bC_moveCopy 4 s _ tp_TB tp_RC := ⟨hx, hb, hml, hown, hTB⟩
  subst hsz
  have hD : va_D (va_A (tp_wC h a cI cZ σ) s.heap.size) (tp_wC h a cI cZ σ) := hD0.self
  have hA : ∀ q : Nat, s.heap.size ≤ q → va_A (tp_wC h a cI cZ σ) s.heap.size q := fun q z => Or.inr z
  have hS : va_S (va_A (tp_wC h a cI cZ σ) s.heap.size) s.heap s.heap [] := va_S.rf
  have hl := lv_entry ([.ref h, .int x1, .int x2, .int x3]) (n := 4) (Nat.le_of_ble_eq_true rfl)
  rw [lg_entry_eq]
  generalize (lg_sl ([.ref h, .int x1, .int x2, .int x3]) ++ List.replicate (4 - (lg_sl ([.ref h, .int x1, .int x2, .int x3])).length) Slot.unset).toArray = ls at hl ⊢
  have hl : lv_has ls 4 [(0, .ref h), (1, .int x1), (2, .int x2), (3, .int x3)] := hl
  rw [fC_moveCopy] at hr
  refine lv_aload_n hx hb dC_moveCopy_0 rfl (lv_at hl 0 rfl) ?_
  refine lv_iload_n hx hb dC_moveCopy_1 rfl (lv_at hl 1 rfl) ?_
  refine lv_iload_n hx hb dC_moveCopy_2 rfl (lv_at hl 2 rfl) ?_
  obtain ⟨q1, hq2, hr⟩ := Option.bind_eq_some_iff.mp hr
  refine tp_kV (rest := []) S hK hP hD hS hA rfl rfl (cC_dropCopy l D h a cI cZ _ σ x1 x2 q1 hq2) (cwV 2 hTB tp_gC_dropCopy rfl rfl rfl ⟨rfl, by decide, by decide, by decide +kernel⟩ ⟨Nat.le_of_ble_eq_true rfl, Nat.le_of_ble_eq_true rfl⟩) rfl hl.1 rfl (Nat.le_of_ble_eq_true rfl) dC_moveCopy_3 ⟨Nat.zero_le _, Nat.zero_le _⟩ (fun H locs hP hS => ?_)
  have hP : va_P D tp_CL (tp_wC h a cI cZ q1) H := hP
  have hD : va_D (va_A (tp_wC h a cI cZ σ) s.heap.size) (tp_wC h a cI cZ q1) := tp_dre hD tp_wC_fst
  refine lv_aload_n hx hb dC_moveCopy_6 rfl (lv_at hl 0 rfl) ?_
  refine lv_iload_n hx hb dC_moveCopy_7 rfl (lv_at hl 1 rfl) ?_
  refine lv_iload_n hx hb dC_moveCopy_8 rfl (lv_at hl 3 rfl) ?_
  obtain ⟨q3, hq4, hr⟩ := Option.bind_eq_some_iff.mp hr
  refine tp_kV (rest := []) S hK hP hD hS hA rfl rfl (cC_addCopy l D h a cI cZ _ q1 x1 x3 q3 hq4) (cwV 2 hTB tp_gC_addCopy rfl rfl rfl ⟨rfl, by decide, by decide, by decide +kernel⟩ ⟨Nat.le_of_ble_eq_true rfl, Nat.le_of_ble_eq_true rfl⟩) rfl hl.1 rfl (Nat.le_of_ble_eq_true rfl) dC_moveCopy_9 ⟨Nat.zero_le _, Nat.zero_le _⟩ (fun H locs hP hS => ?_)
  have hP : va_P D tp_CL (tp_wC h a cI cZ q3) H := hP
  have hD : va_D (va_A (tp_wC h a cI cZ σ) s.heap.size) (tp_wC h a cI cZ q3) := tp_dre hD tp_wC_fst
  obtain rfl := Option.some.inj hr
  exact W.vret hx hb hrt (fun t ht _ => ⟨rfl, by rw [ht]; exact hP, hS.F ht⟩) hS.2.2 dC_moveCopy_12 hlocks
set_option maxHeartbeats 4000000 in
set_option maxRecDepth 100000 in
theorem cC_makeRoomBeside (l : Launch) (D : va_G) (h : Nat) (a : Nat → Nat) (cI cZ : ClassId) (sz : Nat) (σ : tp_St) (x1 : Int32) (r : (Int32 × tp_St)) (hr : fC_makeRoomBeside σ x1 = some r) : Met l tp_yC_makeRoomBeside (tp_wsT tp_yC_makeRoomBeside tp_bC_makeRoomBeside 4 (some .int)) { frames := 3, cells := 0, slots := 0, locals := 67 } (tp_PcW D [(cI, .int), (cZ, .boolean)] (tp_wC h a cI cZ σ) sz [.ref h, .int x1]) (tp_qW (some (.int r.1)) D (tp_wC h a cI cZ r.2) (va_A (tp_wC h a cI cZ σ) sz)) 0 0 (va_A (tp_wC h a cI cZ σ) sz) := by
  refine Met.ofW (cc := tp_bC_makeRoomBeside) (maxL := 4) (ret := (some .int)) (by decide) rfl ?_
  intro p e s m args below meth c s₁ B hml hv
  obtain ⟨rfl, hsz, hP, hK, hD0⟩ := hv
  have hx := B.exec
  have hb := B.bytes
  have hrt := B.returns
  have hTB : ∀ w ∈ tp_TB, w.before _ s = true := fun w z => atoms_spec (ws := (tp_wsT tp_yC_makeRoomBeside tp_bC_makeRoomBeside 4 (some .int))) B.pre w (List.mem_cons_of_mem _ z)
  have hown : s.vm.findClass tp_RC = some m.cls := findClass_of_methodNamed B.named
  have hlocks := B.notSynchronized
  have S : CallFix p m c tp_bC_makeRoomBeside 4 s _ tp_TB tp_RC := ⟨hx, hb, hml, hown, hTB⟩
  subst hsz
  have hD : va_D (va_A (tp_wC h a cI cZ σ) s.heap.size) (tp_wC h a cI cZ σ) := hD0.self
  have hA : ∀ q : Nat, s.heap.size ≤ q → va_A (tp_wC h a cI cZ σ) s.heap.size q := fun q z => Or.inr z
  have hS : va_S (va_A (tp_wC h a cI cZ σ) s.heap.size) s.heap s.heap [] := va_S.rf
  have hl := lv_entry ([.ref h, .int x1]) (n := 4) (Nat.le_of_ble_eq_true rfl)
  rw [lg_entry_eq]
  generalize (lg_sl ([.ref h, .int x1]) ++ List.replicate (4 - (lg_sl ([.ref h, .int x1])).length) Slot.unset).toArray = ls at hl ⊢
  have hl : lv_has ls 4 [(0, .ref h), (1, .int x1)] := hl
  rw [fC_makeRoomBeside] at hr
  refine lv_iconst (v := 0) hx hb dC_makeRoomBeside_0 (by decide) ?_
  refine lv_istore_n hx hb dC_makeRoomBeside_1 rfl hl (by decide) rfl (fun ls hl => ?_)
  have hl : lv_has ls 4 [(2, .int 0), (0, .ref h), (1, .int x1)] := hl
  have loop2 : ∀ (n2 : Nat) (x2 : Int32) (σ2 : tp_St) (H : Heap) (locs : List Loc) (ls : Array Slot), fC_makeRoomBeside_L2 x1 n2 x2 σ2 = some r → lv_has ls 4 [(0, .ref h), (1, .int x1), (2, .int x2)] → va_P D tp_CL (tp_wC h a cI cZ σ2) H → va_D (va_A (tp_wC h a cI cZ σ) s.heap.size) (tp_wC h a cI cZ σ2) → va_S (va_A (tp_wC h a cI cZ σ) s.heap.size) s.heap H locs → W p l e { frames := 3, cells := 0, slots := 0, locals := 67 } s m (([.ref h, .int x1] : List Value).toArray) below meth c H locs 0 0 (MQ below (tp_qW (some (.int r.1)) D (tp_wC h a cI cZ r.2) (va_A (tp_wC h a cI cZ σ) s.heap.size)) (([.ref h, .int x1] : List Value).toArray) s 0 0 (va_A (tp_wC h a cI cZ σ) s.heap.size)) (F0 m 2 ls []) := by
    intro n2
    induction n2 with
    | zero => intro x2 σ2 H locs ls hr hl hP hD hS; exact nomatch (show (none : Option (Int32 × tp_St)) = some r from hr)
    | succ n2 ih2 =>
      intro x2 σ2 H locs ls hr hl hP hD hS
      rw [fC_makeRoomBeside_L2] at hr
      refine lv_iload_n hx hb dC_makeRoomBeside_2 rfl (lv_at hl 2 rfl) ?_
      refine lv_sipush (v := 400) hx hb dC_makeRoomBeside_3 (by decide) ?_
      refine lv_icmp_ge (tgt := 46) hx hb dC_makeRoomBeside_6 (by decide) (fun hc1 => ?_) (fun hc1 => ?_)
      · replace hr := (if_pos hc1).symm.trans hr
        refine lv_iconst (v := (-1)) hx hb dC_makeRoomBeside_46 (by decide) ?_
        obtain rfl := Option.some.inj hr
        exact W.iret (v := (-1)) hx hb hrt (fun t ht _ => ⟨rfl, by rw [ht]; exact hP, hS.F ht⟩) hS.2.2 dC_makeRoomBeside_47 hlocks
      · replace hr := (if_neg hc1).symm.trans hr
        refine lv_aload_n hx hb dC_makeRoomBeside_9 rfl (lv_at hl 0 rfl) ?_
        refine lv_iload_n hx hb dC_makeRoomBeside_10 rfl (lv_at hl 2 rfl) ?_
        refine lv_iload_n hx hb dC_makeRoomBeside_11 rfl (lv_at hl 1 rfl) ?_
        obtain ⟨q2, hq3, hr⟩ := Option.bind_eq_some_iff.mp hr
        refine tp_kP (rest := []) S hK hP hD rfl rfl (cC_copyForRoom l D h a cI cZ _ σ2 x2 x1 q2 hq3) (cwV 2 hTB tp_gC_copyForRoom rfl rfl rfl ⟨rfl, by decide, by decide, by decide +kernel⟩ ⟨Nat.le_of_ble_eq_true rfl, Nat.le_of_ble_eq_true rfl⟩) rfl hl.1 rfl (Nat.le_of_ble_eq_true rfl) dC_makeRoomBeside_12 ⟨Nat.zero_le _, Nat.zero_le _⟩ ?_
        refine lv_istore_n hx hb dC_makeRoomBeside_15 rfl hl (by decide) rfl (fun ls hl => ?_)
        have hl : lv_has ls 4 [(3, .int q2), (0, .ref h), (1, .int x1), (2, .int x2)] := hl
        refine lv_iload_n hx hb dC_makeRoomBeside_16 rfl (lv_at hl 0 rfl) ?_
        refine lv_iconst (v := (-1)) hx hb dC_makeRoomBeside_17 (by decide) ?_
        refine lv_icmp_eq (tgt := 40) hx hb dC_makeRoomBeside_18 (by decide) (fun hc4 => ?_) (fun hc4 => ?_)
        · replace hr := (if_pos hc4).symm.trans hr
          refine lv_iinc (k := 3) (v := (x2 + 1)) hx hb dC_makeRoomBeside_40 hl rfl (tp_ii1 _) (by decide) rfl (fun ls hl => ?_)
          have hl : lv_has ls 4 [(2, .int (x2 + 1)), (3, .int q2), (0, .ref h), (1, .int x1)] := hl
          refine lv_goto (tgt := 2) hx hb dC_makeRoomBeside_43 (by decide) ?_
          exact ih2 (x2 + 1) σ2 H locs ls hr (lv_sub hl [2, 3, 0] rfl) hP hD hS
        · replace hr := (if_neg hc4).symm.trans hr
          refine lv_aload_n hx hb dC_makeRoomBeside_21 rfl (lv_at hl 1 rfl) ?_
          refine lv_iload_n hx hb dC_makeRoomBeside_22 rfl (lv_at hl 3 rfl) ?_
          refine lv_iload_n hx hb dC_makeRoomBeside_23 rfl (lv_at hl 0 rfl) ?_
          refine lv_iload_n hx hb dC_makeRoomBeside_24 rfl (lv_at hl 2 rfl) ?_
          obtain ⟨q5, hq6, hr⟩ := Option.bind_eq_some_iff.mp hr
          refine tp_kV (rest := []) S hK hP hD hS hA rfl rfl (cC_moveCopy l D h a cI cZ _ σ2 x2 q2 x1 q5 hq6) (cwV 3 hTB tp_gC_moveCopy rfl rfl rfl ⟨rfl, by decide, by decide, by decide +kernel⟩ ⟨Nat.le_of_ble_eq_true rfl, Nat.le_of_ble_eq_true rfl⟩) rfl hl.1 rfl (Nat.le_of_ble_eq_true rfl) dC_makeRoomBeside_25 ⟨Nat.zero_le _, Nat.zero_le _⟩ (fun H locs hP hS => ?_)
          have hP : va_P D tp_CL (tp_wC h a cI cZ q5) H := hP
          have hD : va_D (va_A (tp_wC h a cI cZ σ) s.heap.size) (tp_wC h a cI cZ q5) := tp_dre hD tp_wC_fst
          refine lv_aload_n hx hb dC_makeRoomBeside_28 rfl (lv_at hl 1 rfl) ?_
          refine lv_dup hx hb dC_makeRoomBeside_29 rfl ?_
          refine tp_gtC S hK hP 7 (by decide) (v := .int (q5 7 0)) tp_mC_f7 rfl dC_makeRoomBeside_30 ?_
          refine lv_iconst (v := 1) hx hb dC_makeRoomBeside_33 (by decide) ?_
          refine lv_iadd hx hb dC_makeRoomBeside_34 ?_
          refine tp_ptC7 S hK hP hD hS tp_mC_f7 dC_makeRoomBeside_35 (fun H locs hP hD hS => ?_)
          refine lv_iload_n hx hb dC_makeRoomBeside_38 rfl (lv_at hl 0 rfl) ?_
          obtain rfl := Option.some.inj hr
          exact W.iret (v := q2) hx hb hrt (fun t ht _ => ⟨rfl, by rw [ht]; exact hP, hS.F ht⟩) hS.2.2 dC_makeRoomBeside_39 hlocks
  exact loop2 401 0 σ _ _ ls hr (lv_sub hl [1, 2, 0] rfl) hP hD hS
set_option maxHeartbeats 4000000 in
set_option maxRecDepth 100000 in
theorem cC_clearWords (l : Launch) (D : va_G) (h : Nat) (a : Nat → Nat) (cI cZ : ClassId) (sz : Nat) (σ : tp_St) (x1 : Int32) (r : tp_St) (hr : fC_clearWords σ x1 = some r) : Met l tp_yC_clearWords (tp_wsT tp_yC_clearWords tp_bC_clearWords 3 none) { frames := 0, cells := 0, slots := 0, locals := 0 } (tp_PcW D [(cI, .int), (cZ, .boolean)] (tp_wC h a cI cZ σ) sz [.ref h, .int x1]) (tp_qW none D (tp_wC h a cI cZ r) (va_A (tp_wC h a cI cZ σ) sz)) 0 0 (va_A (tp_wC h a cI cZ σ) sz) := by
  refine Met.ofW (cc := tp_bC_clearWords) (maxL := 3) (ret := none) (by decide) rfl ?_
  intro p e s m args below meth c s₁ B hml hv
  obtain ⟨rfl, hsz, hP, hK, hD0⟩ := hv
  have hx := B.exec
  have hb := B.bytes
  have hrt := B.returns
  have hTB : ∀ w ∈ tp_TB, w.before _ s = true := fun w z => atoms_spec (ws := (tp_wsT tp_yC_clearWords tp_bC_clearWords 3 none)) B.pre w (List.mem_cons_of_mem _ z)
  have hown : s.vm.findClass tp_RC = some m.cls := findClass_of_methodNamed B.named
  have hlocks := B.notSynchronized
  have S : CallFix p m c tp_bC_clearWords 3 s _ tp_TB tp_RC := ⟨hx, hb, hml, hown, hTB⟩
  subst hsz
  have hD : va_D (va_A (tp_wC h a cI cZ σ) s.heap.size) (tp_wC h a cI cZ σ) := hD0.self
  have hA : ∀ q : Nat, s.heap.size ≤ q → va_A (tp_wC h a cI cZ σ) s.heap.size q := fun q z => Or.inr z
  have hS : va_S (va_A (tp_wC h a cI cZ σ) s.heap.size) s.heap s.heap [] := va_S.rf
  have hl := lv_entry ([.ref h, .int x1]) (n := 3) (Nat.le_of_ble_eq_true rfl)
  rw [lg_entry_eq]
  generalize (lg_sl ([.ref h, .int x1]) ++ List.replicate (3 - (lg_sl ([.ref h, .int x1])).length) Slot.unset).toArray = ls at hl ⊢
  have hl : lv_has ls 3 [(0, .ref h), (1, .int x1)] := hl
  rw [fC_clearWords] at hr
  refine lv_iconst (v := 0) hx hb dC_clearWords_0 (by decide) ?_
  refine lv_istore_n hx hb dC_clearWords_1 rfl hl (by decide) rfl (fun ls hl => ?_)
  have hl : lv_has ls 3 [(2, .int 0), (0, .ref h), (1, .int x1)] := hl
  have loop2 : ∀ (n2 : Nat) (x2 : Int32) (σ2 : tp_St) (H : Heap) (locs : List Loc) (ls : Array Slot), fC_clearWords_L2 x1 n2 x2 σ2 = some r → lv_has ls 3 [(0, .ref h), (1, .int x1), (2, .int x2)] → va_P D tp_CL (tp_wC h a cI cZ σ2) H → va_D (va_A (tp_wC h a cI cZ σ) s.heap.size) (tp_wC h a cI cZ σ2) → va_S (va_A (tp_wC h a cI cZ σ) s.heap.size) s.heap H locs → W p l e { frames := 0, cells := 0, slots := 0, locals := 0 } s m (([.ref h, .int x1] : List Value).toArray) below meth c H locs 0 0 (MQ below (tp_qW none D (tp_wC h a cI cZ r) (va_A (tp_wC h a cI cZ σ) s.heap.size)) (([.ref h, .int x1] : List Value).toArray) s 0 0 (va_A (tp_wC h a cI cZ σ) s.heap.size)) (F0 m 2 ls []) := by
    intro n2
    induction n2 with
    | zero => intro x2 σ2 H locs ls hr hl hP hD hS; exact nomatch (show (none : Option tp_St) = some r from hr)
    | succ n2 ih2 =>
      intro x2 σ2 H locs ls hr hl hP hD hS
      rw [fC_clearWords_L2] at hr
      refine lv_iload_n hx hb dC_clearWords_2 rfl (lv_at hl 2 rfl) ?_
      refine lv_iconst (v := 4) hx hb dC_clearWords_3 (by decide) ?_
      refine lv_icmp_ge (tgt := 24) hx hb dC_clearWords_4 (by decide) (fun hc1 => ?_) (fun hc1 => ?_)
      · replace hr := (if_pos hc1).symm.trans hr
        obtain rfl := Option.some.inj hr
        exact W.vret hx hb hrt (fun t ht _ => ⟨rfl, by rw [ht]; exact hP, hS.F ht⟩) hS.2.2 dC_clearWords_24 hlocks
      · replace hr := (if_neg hc1).symm.trans hr
        refine lv_aload_n hx hb dC_clearWords_7 rfl (lv_at hl 0 rfl) ?_
        refine tp_gtC S hK hP 6 (by decide) (v := .ref (a 6)) tp_mC_f6 rfl dC_clearWords_8 ?_
        refine lv_iload_n hx hb dC_clearWords_11 rfl (lv_at hl 1 rfl) ?_
        refine lv_iconst (v := 4) hx hb dC_clearWords_12 (by decide) ?_
        refine lv_imul hx hb dC_clearWords_13 ?_
        refine lv_iload_n hx hb dC_clearWords_14 rfl (lv_at hl 2 rfl) ?_
        refine lv_iadd hx hb dC_clearWords_15 ?_
        refine lv_iconst (v := 0) hx hb dC_clearWords_16 (by decide) ?_
        by_cases hb2 : tp_oob ((x1 * 4) + x2) 1600
        · exact nomatch ((if_pos hb2).symm.trans hr)
        replace hr := (if_neg hb2).symm.trans hr
        refine tp_asC6 S hK hP hD hS hb2 dC_clearWords_17 (fun H locs hP hD hS => ?_)
        refine lv_iinc (k := 2) (v := (x2 + 1)) hx hb dC_clearWords_18 hl rfl (tp_ii1 _) (by decide) rfl (fun ls hl => ?_)
        have hl : lv_has ls 3 [(2, .int (x2 + 1)), (0, .ref h), (1, .int x1)] := hl
        refine lv_goto (tgt := 2) hx hb dC_clearWords_21 (by decide) ?_
        exact ih2 (x2 + 1) (tp_up σ2 6 ((x1 * 4) + x2).toNatClampNeg 0) H locs ls hr (lv_sub hl [1, 2, 0] rfl) hP hD hS
  exact loop2 5 0 σ _ _ ls hr (lv_sub hl [1, 2, 0] rfl) hP hD hS
end
