def f_F_isRegister (a1 : Int32) : Int32 := (if a1 < 0 then (0 : Int32) else (if (16 : Int32) ≤ a1 then (0 : Int32) else (1 : Int32)))
def f_F_isMinus (a1 : Int32) : Int32 := (if (a1 &&& (1073741824 : Int32)) = 0 then (0 : Int32) else (1 : Int32))
def f_F_number (a1 : Int32) : Int32 := (if (f_F_isMinus a1) = 0 then (a1 &&& (1073741823 : Int32)) else (-(a1 &&& (1073741823 : Int32))))
def f_F_firstByte (a1 : Int32) : Int32 := (a1 >>> ((3 : Int32) &&& 31))
def f_F_lastByte (a1 : Int32) : Int32 := (a1 &&& (7 : Int32))
def f_F_bitsRightOf (a1 : Int32) : Int32 := ((6 : Int32) * ((5 : Int32) - a1))
def f_F_rightMask (a1 : Int32) : Int32 := (((1 : Int32) <<< (((6 : Int32) * (((f_F_lastByte a1) - (if (f_F_firstByte a1) < (1 : Int32) then (1 : Int32) else (f_F_firstByte a1))) + (1 : Int32))) &&& 31)) - (1 : Int32))
def f_F_signMask (a1 : Int32) : Int32 := (if (f_F_firstByte a1) = 0 then (1073741824 : Int32) else (0 : Int32))
def f_F_fieldOf (a1 a2 : Int32) : Int32 := (((a1 >>> ((f_F_bitsRightOf (f_F_lastByte a2)) &&& 31)) &&& (f_F_rightMask a2)) ||| (a1 &&& (f_F_signMask a2)))
def f_F_greatLetter (a1 : Int32) : Int32 := (if a1 < (97 : Int32) then a1 else (if (122 : Int32) < a1 then a1 else ((a1 - (97 : Int32)) + (65 : Int32))))
def f_F_isField (a1 : Int32) : Int32 := (if a1 < 0 then (0 : Int32) else (if (f_F_lastByte a1) < (f_F_firstByte a1) then (0 : Int32) else (if (5 : Int32) < (f_F_lastByte a1) then (0 : Int32) else (1 : Int32))))
def f_F_value (f : Nat → Int32) (a1 : Int32) : Int32 := (if (f_F_isRegister a1) = 0 then (2147483647 : Int32) else (if (f a1.toNatClampNeg) = (1073741824 : Int32) then (-2147483648 : Int32) else (f_F_number (f a1.toNatClampNeg))))
def f_F_byteOf (f : Nat → Int32) (a1 a2 : Int32) : Int32 := (if (f_F_isRegister a1) = 0 then (-1 : Int32) else (if a2 < 0 then (-1 : Int32) else (if a2 ≤ (5 : Int32) then (if a2 = 0 then (if (f_F_isMinus (f a1.toNatClampNeg)) = 0 then (0 : Int32) else (1 : Int32)) else (((f a1.toNatClampNeg) >>> ((f_F_bitsRightOf a2) &&& 31)) &&& (63 : Int32))) else (-1 : Int32))))
def f_F_compare (f : Nat → Int32) (a1 a2 a3 : Int32) : Int32 := (if (f_F_isRegister a1) = 0 then (-2 : Int32) else (if (f_F_isRegister a2) = 0 then (-2 : Int32) else (if (f_F_isField a3) = 0 then (-2 : Int32) else (if (f_F_number (f_F_fieldOf (f a2.toNatClampNeg) a3)) ≤ (f_F_number (f_F_fieldOf (f a1.toNatClampNeg) a3)) then (if (f_F_number (f_F_fieldOf (f a1.toNatClampNeg) a3)) ≤ (f_F_number (f_F_fieldOf (f a2.toNatClampNeg) a3)) then (0 : Int32) else (1 : Int32)) else (-1 : Int32)))))
def f_F_set (f : Nat → Int32) (a1 a2 a3 : Int32) : Int32 := (if (f_F_isRegister a1) = 0 then (0 : Int32) else (if (1073741823 : Int32) < a2 then (0 : Int32) else (if (-1073741823 : Int32) ≤ a2 then (1 : Int32) else (0 : Int32))))
def u_F_set_f (f : Nat → Int32) (a1 a2 a3 : Int32) : Nat → Int32 := (if (f_F_isRegister a1) = 0 then f else (if (1073741823 : Int32) < a2 then f else (if (-1073741823 : Int32) ≤ a2 then upd f a1.toNatClampNeg ((if 0 ≤ a2 then a2 else (-a2)) ||| (if (if a2 < 0 then (1 : Int32) else (if a2 = 0 then (if a3 = 0 then (0 : Int32) else (1 : Int32)) else (0 : Int32))) = 0 then (0 : Int32) else (1073741824 : Int32))) else f)))
def f_F_load (f : Nat → Int32) (a1 a2 a3 : Int32) : Int32 := (if (f_F_isRegister a1) = 0 then (0 : Int32) else (if (f_F_isRegister a2) = 0 then (0 : Int32) else (if (f_F_isField a3) = 0 then (0 : Int32) else (1 : Int32))))
def u_F_load_f (f : Nat → Int32) (a1 a2 a3 : Int32) : Nat → Int32 := (if (f_F_isRegister a1) = 0 then f else (if (f_F_isRegister a2) = 0 then f else (if (f_F_isField a3) = 0 then f else upd f a1.toNatClampNeg (f_F_fieldOf (f a2.toNatClampNeg) a3))))
def f_F_store (f : Nat → Int32) (a1 a2 a3 : Int32) : Int32 := (if (f_F_isRegister a1) = 0 then (0 : Int32) else (if (f_F_isRegister a2) = 0 then (0 : Int32) else (if (f_F_isField a3) = 0 then (0 : Int32) else (1 : Int32))))
def u_F_store_f (f : Nat → Int32) (a1 a2 a3 : Int32) : Nat → Int32 := (if (f_F_isRegister a1) = 0 then f else (if (f_F_isRegister a2) = 0 then f else (if (f_F_isField a3) = 0 then f else upd f a1.toNatClampNeg ((((f a1.toNatClampNeg) &&& ((((f_F_rightMask a3) <<< ((f_F_bitsRightOf (f_F_lastByte a3)) &&& 31)) ||| (f_F_signMask a3)) ^^^ (-1 : Int32))) ||| (((f a2.toNatClampNeg) &&& (f_F_rightMask a3)) <<< ((f_F_bitsRightOf (f_F_lastByte a3)) &&& 31))) ||| ((f a2.toNatClampNeg) &&& (f_F_signMask a3))))))
def f_F_turn (f : Nat → Int32) (a1 : Int32) : Int32 := (if (f_F_isRegister a1) = 0 then (0 : Int32) else (1 : Int32))
def u_F_turn_f (f : Nat → Int32) (a1 : Int32) : Nat → Int32 := (if (f_F_isRegister a1) = 0 then f else upd f a1.toNatClampNeg ((f a1.toNatClampNeg) ^^^ (1073741824 : Int32)))
def f_M_isRegister (a1 : Int32) : Int32 := (if a1 < 0 then (0 : Int32) else (if (16 : Int32) ≤ a1 then (0 : Int32) else (1 : Int32)))
def f_M_is (a1 : Int32) : Int32 := (if a1 < 0 then (0 : Int32) else (if (48 : Int32) ≤ a1 then (0 : Int32) else (if (6 : Int32) ≤ (a1 - a1 / (8 : Int32) * (8 : Int32)) then (0 : Int32) else (if (a1 - a1 / (8 : Int32) * (8 : Int32)) < (a1 / (8 : Int32)) then (0 : Int32) else (1 : Int32)))))
def f_M_first (a1 : Int32) : Int32 := (if (8 : Int32) ≤ a1 then (a1 / (8 : Int32)) else (1 : Int32))
def f_M_may (a1 a2 a3 : Int32) : Int32 := (if (f_M_isRegister a1) = 0 then (0 : Int32) else (if (f_M_isRegister a2) = 0 then (0 : Int32) else (if (f_M_is a3) = 0 then (0 : Int32) else (1 : Int32))))
def f_M_isField (a1 : Int32) : Int32 := (f_M_is a1)
def f_M_number (g : Nat → Int32) (b : Nat → Int32) (t : Nat → Int32) (w : Nat → Int32) (a1 a2 a3 : Int32) : Int32 := (if a3 < a2 then (0 : Int32) else (if a3 < (a2 + (1 : Int32)) then (((64 : Int32) * (0 : Int32)) + (b (((6 : Int32) * a1) + a2).toNatClampNeg)) else (if a3 < ((a2 + (1 : Int32)) + (1 : Int32)) then (((64 : Int32) * (((64 : Int32) * (0 : Int32)) + (b (((6 : Int32) * a1) + a2).toNatClampNeg))) + (b (((6 : Int32) * a1) + (a2 + (1 : Int32))).toNatClampNeg)) else (if a3 < (((a2 + (1 : Int32)) + (1 : Int32)) + (1 : Int32)) then (((64 : Int32) * (((64 : Int32) * (((64 : Int32) * (0 : Int32)) + (b (((6 : Int32) * a1) + a2).toNatClampNeg))) + (b (((6 : Int32) * a1) + (a2 + (1 : Int32))).toNatClampNeg))) + (b (((6 : Int32) * a1) + ((a2 + (1 : Int32)) + (1 : Int32))).toNatClampNeg)) else (if a3 < ((((a2 + (1 : Int32)) + (1 : Int32)) + (1 : Int32)) + (1 : Int32)) then (((64 : Int32) * (((64 : Int32) * (((64 : Int32) * (((64 : Int32) * (0 : Int32)) + (b (((6 : Int32) * a1) + a2).toNatClampNeg))) + (b (((6 : Int32) * a1) + (a2 + (1 : Int32))).toNatClampNeg))) + (b (((6 : Int32) * a1) + ((a2 + (1 : Int32)) + (1 : Int32))).toNatClampNeg))) + (b (((6 : Int32) * a1) + (((a2 + (1 : Int32)) + (1 : Int32)) + (1 : Int32))).toNatClampNeg)) else (((64 : Int32) * (((64 : Int32) * (((64 : Int32) * (((64 : Int32) * (((64 : Int32) * (0 : Int32)) + (b (((6 : Int32) * a1) + a2).toNatClampNeg))) + (b (((6 : Int32) * a1) + (a2 + (1 : Int32))).toNatClampNeg))) + (b (((6 : Int32) * a1) + ((a2 + (1 : Int32)) + (1 : Int32))).toNatClampNeg))) + (b (((6 : Int32) * a1) + (((a2 + (1 : Int32)) + (1 : Int32)) + (1 : Int32))).toNatClampNeg))) + (b (((6 : Int32) * a1) + ((((a2 + (1 : Int32)) + (1 : Int32)) + (1 : Int32)) + (1 : Int32))).toNatClampNeg)))))))
def f_M_value (g : Nat → Int32) (b : Nat → Int32) (t : Nat → Int32) (w : Nat → Int32) (a1 : Int32) : Int32 := (if (f_M_isRegister a1) = 0 then (2147483647 : Int32) else (if (g a1.toNatClampNeg) = 0 then (f_M_number g b t w a1 (1 : Int32) (5 : Int32)) else (if (f_M_number g b t w a1 (1 : Int32) (5 : Int32)) = 0 then (-2147483648 : Int32) else (-(f_M_number g b t w a1 (1 : Int32) (5 : Int32))))))
def f_M_byteOf (g : Nat → Int32) (b : Nat → Int32) (t : Nat → Int32) (w : Nat → Int32) (a1 a2 : Int32) : Int32 := (if (f_M_isRegister a1) = 0 then (-1 : Int32) else (if a2 < 0 then (-1 : Int32) else (if a2 ≤ (5 : Int32) then (if a2 ≤ 0 then (if (g a1.toNatClampNeg) = 0 then (0 : Int32) else (1 : Int32)) else (b (((6 : Int32) * a1) + a2).toNatClampNeg)) else (-1 : Int32))))
def f_M_compare (g : Nat → Int32) (b : Nat → Int32) (t : Nat → Int32) (w : Nat → Int32) (a1 a2 a3 : Int32) : Int32 := (if (f_M_may a1 a2 a3) = 0 then (-2 : Int32) else (if (if (8 : Int32) ≤ a3 then (f_M_number g b t w a2 (f_M_first a3) (a3 - a3 / (8 : Int32) * (8 : Int32))) else (if (g a2.toNatClampNeg) = 0 then (f_M_number g b t w a2 (f_M_first a3) (a3 - a3 / (8 : Int32) * (8 : Int32))) else (-(f_M_number g b t w a2 (f_M_first a3) (a3 - a3 / (8 : Int32) * (8 : Int32)))))) ≤ (if (8 : Int32) ≤ a3 then (f_M_number g b t w a1 (f_M_first a3) (a3 - a3 / (8 : Int32) * (8 : Int32))) else (if (g a1.toNatClampNeg) = 0 then (f_M_number g b t w a1 (f_M_first a3) (a3 - a3 / (8 : Int32) * (8 : Int32))) else (-(f_M_number g b t w a1 (f_M_first a3) (a3 - a3 / (8 : Int32) * (8 : Int32)))))) then (if (if (8 : Int32) ≤ a3 then (f_M_number g b t w a1 (f_M_first a3) (a3 - a3 / (8 : Int32) * (8 : Int32))) else (if (g a1.toNatClampNeg) = 0 then (f_M_number g b t w a1 (f_M_first a3) (a3 - a3 / (8 : Int32) * (8 : Int32))) else (-(f_M_number g b t w a1 (f_M_first a3) (a3 - a3 / (8 : Int32) * (8 : Int32)))))) ≤ (if (8 : Int32) ≤ a3 then (f_M_number g b t w a2 (f_M_first a3) (a3 - a3 / (8 : Int32) * (8 : Int32))) else (if (g a2.toNatClampNeg) = 0 then (f_M_number g b t w a2 (f_M_first a3) (a3 - a3 / (8 : Int32) * (8 : Int32))) else (-(f_M_number g b t w a2 (f_M_first a3) (a3 - a3 / (8 : Int32) * (8 : Int32)))))) then (0 : Int32) else (1 : Int32)) else (-1 : Int32)))
def f_M_letter (g : Nat → Int32) (b : Nat → Int32) (t : Nat → Int32) (w : Nat → Int32) (a1 : Int32) : Int32 := (if a1 < 0 then (-1 : Int32) else (if a1 ≤ (63 : Int32) then (if (56 : Int32) ≤ a1 then (63 : Int32) else (t a1.toNatClampNeg)) else (-1 : Int32)))
def f_M_turn (g : Nat → Int32) (b : Nat → Int32) (t : Nat → Int32) (w : Nat → Int32) (a1 : Int32) : Int32 := (if (f_M_isRegister a1) = 0 then (0 : Int32) else (1 : Int32))
def u_M_turn_g (g : Nat → Int32) (b : Nat → Int32) (t : Nat → Int32) (w : Nat → Int32) (a1 : Int32) : Nat → Int32 := (if (f_M_isRegister a1) = 0 then g else upd g a1.toNatClampNeg (vp_nar .boolean (if (g a1.toNatClampNeg) = 0 then (1 : Int32) else (0 : Int32))))
def f_M_set (g : Nat → Int32) (b : Nat → Int32) (t : Nat → Int32) (w : Nat → Int32) (a1 a2 a3 : Int32) : Int32 := (if (f_M_isRegister a1) = 0 then (0 : Int32) else (if a2 ≤ (-1073741824 : Int32) then (0 : Int32) else (if a2 < (1073741824 : Int32) then (1 : Int32) else (0 : Int32))))
def u_M_set_g (g : Nat → Int32) (b : Nat → Int32) (t : Nat → Int32) (w : Nat → Int32) (a1 a2 a3 : Int32) : Nat → Int32 := (if (f_M_isRegister a1) = 0 then g else (if a2 ≤ (-1073741824 : Int32) then g else (if a2 < (1073741824 : Int32) then upd g a1.toNatClampNeg (vp_nar .boolean (if a2 < 0 then (1 : Int32) else (if a2 = 0 then (if a3 = 0 then (0 : Int32) else (1 : Int32)) else (0 : Int32)))) else g)))
def u_M_set_b (g : Nat → Int32) (b : Nat → Int32) (t : Nat → Int32) (w : Nat → Int32) (a1 a2 a3 : Int32) : Nat → Int32 := (if (f_M_isRegister a1) = 0 then b else (if a2 ≤ (-1073741824 : Int32) then b else (if a2 < (1073741824 : Int32) then upd (upd (upd (upd (upd b (((6 : Int32) * a1) + (5 : Int32)).toNatClampNeg ((if 0 ≤ a2 then a2 else (-a2)) - (if 0 ≤ a2 then a2 else (-a2)) / (64 : Int32) * (64 : Int32))) (((6 : Int32) * a1) + (4 : Int32)).toNatClampNeg (((if 0 ≤ a2 then a2 else (-a2)) / (64 : Int32)) - ((if 0 ≤ a2 then a2 else (-a2)) / (64 : Int32)) / (64 : Int32) * (64 : Int32))) (((6 : Int32) * a1) + (3 : Int32)).toNatClampNeg ((((if 0 ≤ a2 then a2 else (-a2)) / (64 : Int32)) / (64 : Int32)) - (((if 0 ≤ a2 then a2 else (-a2)) / (64 : Int32)) / (64 : Int32)) / (64 : Int32) * (64 : Int32))) (((6 : Int32) * a1) + (2 : Int32)).toNatClampNeg (((((if 0 ≤ a2 then a2 else (-a2)) / (64 : Int32)) / (64 : Int32)) / (64 : Int32)) - ((((if 0 ≤ a2 then a2 else (-a2)) / (64 : Int32)) / (64 : Int32)) / (64 : Int32)) / (64 : Int32) * (64 : Int32))) (((6 : Int32) * a1) + (1 : Int32)).toNatClampNeg ((((((if 0 ≤ a2 then a2 else (-a2)) / (64 : Int32)) / (64 : Int32)) / (64 : Int32)) / (64 : Int32)) - (((((if 0 ≤ a2 then a2 else (-a2)) / (64 : Int32)) / (64 : Int32)) / (64 : Int32)) / (64 : Int32)) / (64 : Int32) * (64 : Int32)) else b)))
def f_M_load (g : Nat → Int32) (b : Nat → Int32) (t : Nat → Int32) (w : Nat → Int32) (a1 a2 a3 : Int32) : Int32 := (if (f_M_may a1 a2 a3) = 0 then (0 : Int32) else (1 : Int32))
def u_M_load_g (g : Nat → Int32) (b : Nat → Int32) (t : Nat → Int32) (w : Nat → Int32) (a1 a2 a3 : Int32) : Nat → Int32 := (if (f_M_may a1 a2 a3) = 0 then g else upd g a1.toNatClampNeg (vp_nar .boolean (if (8 : Int32) ≤ a3 then (0 : Int32) else (if (g a2.toNatClampNeg) = 0 then (0 : Int32) else (1 : Int32)))))
def u_M_load_b (g : Nat → Int32) (b : Nat → Int32) (t : Nat → Int32) (w : Nat → Int32) (a1 a2 a3 : Int32) : Nat → Int32 := (if (f_M_may a1 a2 a3) = 0 then b else upd (upd (upd (upd (upd b (((6 : Int32) * a1) + (1 : Int32)).toNatClampNeg (if (((1 : Int32) - (5 : Int32)) + (a3 - a3 / (8 : Int32) * (8 : Int32))) < (f_M_first a3) then (0 : Int32) else (b (((6 : Int32) * a2) + (((1 : Int32) - (5 : Int32)) + (a3 - a3 / (8 : Int32) * (8 : Int32)))).toNatClampNeg))) (((6 : Int32) * a1) + (2 : Int32)).toNatClampNeg (if (((2 : Int32) - (5 : Int32)) + (a3 - a3 / (8 : Int32) * (8 : Int32))) < (f_M_first a3) then (0 : Int32) else (b (((6 : Int32) * a2) + (((2 : Int32) - (5 : Int32)) + (a3 - a3 / (8 : Int32) * (8 : Int32)))).toNatClampNeg))) (((6 : Int32) * a1) + (3 : Int32)).toNatClampNeg (if (((3 : Int32) - (5 : Int32)) + (a3 - a3 / (8 : Int32) * (8 : Int32))) < (f_M_first a3) then (0 : Int32) else (b (((6 : Int32) * a2) + (((3 : Int32) - (5 : Int32)) + (a3 - a3 / (8 : Int32) * (8 : Int32)))).toNatClampNeg))) (((6 : Int32) * a1) + (4 : Int32)).toNatClampNeg (if (((4 : Int32) - (5 : Int32)) + (a3 - a3 / (8 : Int32) * (8 : Int32))) < (f_M_first a3) then (0 : Int32) else (b (((6 : Int32) * a2) + (((4 : Int32) - (5 : Int32)) + (a3 - a3 / (8 : Int32) * (8 : Int32)))).toNatClampNeg))) (((6 : Int32) * a1) + (5 : Int32)).toNatClampNeg (if (((5 : Int32) - (5 : Int32)) + (a3 - a3 / (8 : Int32) * (8 : Int32))) < (f_M_first a3) then (0 : Int32) else (b (((6 : Int32) * a2) + (((5 : Int32) - (5 : Int32)) + (a3 - a3 / (8 : Int32) * (8 : Int32)))).toNatClampNeg)))
def u_M_load_w (g : Nat → Int32) (b : Nat → Int32) (t : Nat → Int32) (w : Nat → Int32) (a1 a2 a3 : Int32) : Nat → Int32 := (if (f_M_may a1 a2 a3) = 0 then w else upd (upd (upd (upd (upd w 1 (if (((1 : Int32) - (5 : Int32)) + (a3 - a3 / (8 : Int32) * (8 : Int32))) < (f_M_first a3) then (0 : Int32) else (b (((6 : Int32) * a2) + (((1 : Int32) - (5 : Int32)) + (a3 - a3 / (8 : Int32) * (8 : Int32)))).toNatClampNeg))) 2 (if (((2 : Int32) - (5 : Int32)) + (a3 - a3 / (8 : Int32) * (8 : Int32))) < (f_M_first a3) then (0 : Int32) else (b (((6 : Int32) * a2) + (((2 : Int32) - (5 : Int32)) + (a3 - a3 / (8 : Int32) * (8 : Int32)))).toNatClampNeg))) 3 (if (((3 : Int32) - (5 : Int32)) + (a3 - a3 / (8 : Int32) * (8 : Int32))) < (f_M_first a3) then (0 : Int32) else (b (((6 : Int32) * a2) + (((3 : Int32) - (5 : Int32)) + (a3 - a3 / (8 : Int32) * (8 : Int32)))).toNatClampNeg))) 4 (if (((4 : Int32) - (5 : Int32)) + (a3 - a3 / (8 : Int32) * (8 : Int32))) < (f_M_first a3) then (0 : Int32) else (b (((6 : Int32) * a2) + (((4 : Int32) - (5 : Int32)) + (a3 - a3 / (8 : Int32) * (8 : Int32)))).toNatClampNeg))) 5 (if (((5 : Int32) - (5 : Int32)) + (a3 - a3 / (8 : Int32) * (8 : Int32))) < (f_M_first a3) then (0 : Int32) else (b (((6 : Int32) * a2) + (((5 : Int32) - (5 : Int32)) + (a3 - a3 / (8 : Int32) * (8 : Int32)))).toNatClampNeg)))
def f_M_store (g : Nat → Int32) (b : Nat → Int32) (t : Nat → Int32) (w : Nat → Int32) (a1 a2 a3 : Int32) : Int32 := (if (f_M_may a1 a2 a3) = 0 then (0 : Int32) else (1 : Int32))
def u_M_store_g (g : Nat → Int32) (b : Nat → Int32) (t : Nat → Int32) (w : Nat → Int32) (a1 a2 a3 : Int32) : Nat → Int32 := (if (f_M_may a1 a2 a3) = 0 then g else upd g a1.toNatClampNeg (vp_nar .boolean (if (8 : Int32) ≤ a3 then (g a1.toNatClampNeg) else (g a2.toNatClampNeg))))
def u_M_store_b (g : Nat → Int32) (b : Nat → Int32) (t : Nat → Int32) (w : Nat → Int32) (a1 a2 a3 : Int32) : Nat → Int32 := (if (f_M_may a1 a2 a3) = 0 then b else upd (upd (upd (upd (upd b (((6 : Int32) * a1) + (1 : Int32)).toNatClampNeg (if (if (1 : Int32) < (f_M_first a3) then (0 : Int32) else (if (a3 - a3 / (8 : Int32) * (8 : Int32)) < (1 : Int32) then (0 : Int32) else (1 : Int32))) = 0 then (b (((6 : Int32) * a1) + (1 : Int32)).toNatClampNeg) else (b (((((6 : Int32) * a2) + (1 : Int32)) + (5 : Int32)) - (a3 - a3 / (8 : Int32) * (8 : Int32))).toNatClampNeg))) (((6 : Int32) * a1) + (2 : Int32)).toNatClampNeg (if (if (2 : Int32) < (f_M_first a3) then (0 : Int32) else (if (a3 - a3 / (8 : Int32) * (8 : Int32)) < (2 : Int32) then (0 : Int32) else (1 : Int32))) = 0 then (b (((6 : Int32) * a1) + (2 : Int32)).toNatClampNeg) else (b (((((6 : Int32) * a2) + (2 : Int32)) + (5 : Int32)) - (a3 - a3 / (8 : Int32) * (8 : Int32))).toNatClampNeg))) (((6 : Int32) * a1) + (3 : Int32)).toNatClampNeg (if (if (3 : Int32) < (f_M_first a3) then (0 : Int32) else (if (a3 - a3 / (8 : Int32) * (8 : Int32)) < (3 : Int32) then (0 : Int32) else (1 : Int32))) = 0 then (b (((6 : Int32) * a1) + (3 : Int32)).toNatClampNeg) else (b (((((6 : Int32) * a2) + (3 : Int32)) + (5 : Int32)) - (a3 - a3 / (8 : Int32) * (8 : Int32))).toNatClampNeg))) (((6 : Int32) * a1) + (4 : Int32)).toNatClampNeg (if (if (4 : Int32) < (f_M_first a3) then (0 : Int32) else (if (a3 - a3 / (8 : Int32) * (8 : Int32)) < (4 : Int32) then (0 : Int32) else (1 : Int32))) = 0 then (b (((6 : Int32) * a1) + (4 : Int32)).toNatClampNeg) else (b (((((6 : Int32) * a2) + (4 : Int32)) + (5 : Int32)) - (a3 - a3 / (8 : Int32) * (8 : Int32))).toNatClampNeg))) (((6 : Int32) * a1) + (5 : Int32)).toNatClampNeg (if (if (5 : Int32) < (f_M_first a3) then (0 : Int32) else (if (a3 - a3 / (8 : Int32) * (8 : Int32)) < (5 : Int32) then (0 : Int32) else (1 : Int32))) = 0 then (b (((6 : Int32) * a1) + (5 : Int32)).toNatClampNeg) else (b (((((6 : Int32) * a2) + (5 : Int32)) + (5 : Int32)) - (a3 - a3 / (8 : Int32) * (8 : Int32))).toNatClampNeg)))
def u_M_store_w (g : Nat → Int32) (b : Nat → Int32) (t : Nat → Int32) (w : Nat → Int32) (a1 a2 a3 : Int32) : Nat → Int32 := (if (f_M_may a1 a2 a3) = 0 then w else upd (upd (upd (upd (upd w 1 (if (if (1 : Int32) < (f_M_first a3) then (0 : Int32) else (if (a3 - a3 / (8 : Int32) * (8 : Int32)) < (1 : Int32) then (0 : Int32) else (1 : Int32))) = 0 then (b (((6 : Int32) * a1) + (1 : Int32)).toNatClampNeg) else (b (((((6 : Int32) * a2) + (1 : Int32)) + (5 : Int32)) - (a3 - a3 / (8 : Int32) * (8 : Int32))).toNatClampNeg))) 2 (if (if (2 : Int32) < (f_M_first a3) then (0 : Int32) else (if (a3 - a3 / (8 : Int32) * (8 : Int32)) < (2 : Int32) then (0 : Int32) else (1 : Int32))) = 0 then (b (((6 : Int32) * a1) + (2 : Int32)).toNatClampNeg) else (b (((((6 : Int32) * a2) + (2 : Int32)) + (5 : Int32)) - (a3 - a3 / (8 : Int32) * (8 : Int32))).toNatClampNeg))) 3 (if (if (3 : Int32) < (f_M_first a3) then (0 : Int32) else (if (a3 - a3 / (8 : Int32) * (8 : Int32)) < (3 : Int32) then (0 : Int32) else (1 : Int32))) = 0 then (b (((6 : Int32) * a1) + (3 : Int32)).toNatClampNeg) else (b (((((6 : Int32) * a2) + (3 : Int32)) + (5 : Int32)) - (a3 - a3 / (8 : Int32) * (8 : Int32))).toNatClampNeg))) 4 (if (if (4 : Int32) < (f_M_first a3) then (0 : Int32) else (if (a3 - a3 / (8 : Int32) * (8 : Int32)) < (4 : Int32) then (0 : Int32) else (1 : Int32))) = 0 then (b (((6 : Int32) * a1) + (4 : Int32)).toNatClampNeg) else (b (((((6 : Int32) * a2) + (4 : Int32)) + (5 : Int32)) - (a3 - a3 / (8 : Int32) * (8 : Int32))).toNatClampNeg))) 5 (if (if (5 : Int32) < (f_M_first a3) then (0 : Int32) else (if (a3 - a3 / (8 : Int32) * (8 : Int32)) < (5 : Int32) then (0 : Int32) else (1 : Int32))) = 0 then (b (((6 : Int32) * a1) + (5 : Int32)).toNatClampNeg) else (b (((((6 : Int32) * a2) + (5 : Int32)) + (5 : Int32)) - (a3 - a3 / (8 : Int32) * (8 : Int32))).toNatClampNeg)))
def f_M_code (g : Nat → Int32) (b : Nat → Int32) (t : Nat → Int32) (w : Nat → Int32) (a1 : Int32) : Int32 := (if a1 < 0 then (-1 : Int32) else (if a1 ≤ (255 : Int32) then cdS t (if a1 < (97 : Int32) then a1 else (if (122 : Int32) < a1 then a1 else (a1 - (32 : Int32)))) 56 else (-1 : Int32)))
def f_Q_checkIndex (a1 : Int32) : Int32 := a1
def f_Q_checkIndexR (a1 : Int32) : Int32 := a1
def f_Z_charAt (a1 : Int32) : Int32 := (((sby a1.toNatClampNeg) &&& (255 : Int32)).toUInt32 % 65536).toInt32
def f_S_charAt (a1 : Int32) : Int32 := (f_Z_charAt a1)
def f_Z_canEncode (a1 : Int32) : Int32 := (if a1 < 0 then (0 : Int32) else (if (255 : Int32) < a1 then (0 : Int32) else (1 : Int32)))
def f_Z_indexOfChar (a1 : Int32) : Int32 := ixF a1.toInt8.toInt32 56 0
def f_Z_indexOf (a1 : Int32) : Int32 := (if (f_Z_canEncode a1) = 0 then (-1 : Int32) else (f_Z_indexOfChar a1))
def f_S_indexOf2 (a1 : Int32) : Int32 := (f_Z_indexOf a1)
def f_S_indexOf (a1 : Int32) : Int32 := (f_S_indexOf2 a1)
def f_F_letter (a1 : Int32) : Int32 := (if a1 < 0 then (-1 : Int32) else (if a1 ≤ (63 : Int32) then (if (56 : Int32) ≤ a1 then (63 : Int32) else (f_S_charAt a1)) else (-1 : Int32)))
def f_F_code (a1 : Int32) : Int32 := (if a1 < 0 then (-1 : Int32) else (if a1 ≤ (255 : Int32) then (if 0 ≤ (f_S_indexOf ((f_F_greatLetter a1).toUInt32 % 65536).toInt32) then (f_S_indexOf ((f_F_greatLetter a1).toUInt32 % 65536).toInt32) else (0 : Int32)) else (-1 : Int32)))
theorem in_F {a : Int32} (h : ¬ f_F_isRegister a = 0) : vp_in a 16 := by
  rw [vp_in_iff]
  unfold f_F_isRegister at h
  split at h
  · exact absurd rfl h
  · rename_i h0
    split at h
    · exact absurd rfl h
    · rename_i h1
      rw [Int32.lt_iff_toInt_lt] at h0
      rw [Int32.le_iff_toInt_le] at h1
      have e1 : (16 : Int32).toInt = 16 := by decide
      have e0 : (0 : Int32).toInt = 0 := by decide
      omega
theorem in_M {a : Int32} (h : ¬ f_M_isRegister a = 0) : vp_in a 16 := by
  rw [vp_in_iff]
  unfold f_M_isRegister at h
  split at h
  · exact absurd rfl h
  · rename_i h0
    split at h
    · exact absurd rfl h
    · rename_i h1
      rw [Int32.lt_iff_toInt_lt] at h0
      rw [Int32.le_iff_toInt_le] at h1
      have e1 : (16 : Int32).toInt = 16 := by decide
      have e0 : (0 : Int32).toInt = 0 := by decide
      omega
theorem ix_e {j k : Nat} (hj : j < 16) (hk : k < 6) : (((6 : Int32) * nI j) + nI k).toNatClampNeg = 6 * j + k := by
  have e : (6 : Int32) * nI j + nI k = nI (6 * j + k) := by
    rw [show (6 : Int32) = nI 6 from rfl, pk_mul, nI_add]
  rw [e, nI_clamp (by omega)]
theorem in_96 {a k : Int32} (h : ¬ f_M_isRegister a = 0) (hk : vp_in k 6) : vp_in (((6 : Int32) * a) + k) 96 := by
  obtain ⟨j, hj, rfl⟩ := vp_in_of (in_M h) (by decide)
  obtain ⟨i, hi, rfl⟩ := vp_in_of hk (by decide)
  have e : (6 : Int32) * nI j + nI i = nI (6 * j + i) := by
    rw [show (6 : Int32) = nI 6 from rfl, pk_mul, nI_add]
  rw [e]
  exact vp_in_nI (by omega) (by decide)
theorem in_6 {k : Int32} (h0 : ¬ k < 0) (h5 : k ≤ (5 : Int32)) : vp_in k 6 := by
  rw [vp_in_iff]
  rw [Int32.lt_iff_toInt_lt] at h0
  rw [Int32.le_iff_toInt_le] at h5
  have e1 : (5 : Int32).toInt = 5 := by decide
  have e0 : (0 : Int32).toInt = 0 := by decide
  omega
theorem in_56 {k : Int32} (h0 : ¬ k < 0) (h5 : ¬ (56 : Int32) ≤ k) : vp_in k 56 := by
  rw [vp_in_iff]
  rw [Int32.lt_iff_toInt_lt] at h0
  rw [Int32.le_iff_toInt_le] at h5
  have e1 : (56 : Int32).toInt = 56 := by decide
  have e0 : (0 : Int32).toInt = 0 := by decide
  omega
def nQ (j : Nat) (k : Int32) : Prop := ∃ i : Nat, k = nI i ∧ j ≤ i ∧ i < 2 ^ 31
theorem n_1 {a : Int32} (h : ¬ a < 1) : nQ 1 a := by
  rw [Int32.lt_iff_toInt_lt] at h
  have e1 : (1 : Int32).toInt = 1 := by decide
  have h0 : ¬ a < 0 := by
    rw [Int32.lt_iff_toInt_lt]
    have e0 : (0 : Int32).toInt = 0 := by decide
    omega
  obtain ⟨j, hj, rfl⟩ := nI_of h0
  rw [nI_toInt hj] at h
  exact ⟨j, rfl, by omega, hj⟩
theorem n_5 {i : Nat} {a3 : Int32} (hi : i < 2 ^ 31) (hc : ¬ a3 < nI i) (h3 : ¬ (5 : Int32) < a3) : i ≤ 5 := by
  rw [Int32.lt_iff_toInt_lt] at hc h3
  rw [nI_toInt hi] at hc
  have e1 : (5 : Int32).toInt = 5 := by decide
  omega
theorem n_s {j : Nat} {k a3 k' : Int32} (h : nQ j k) (hc : ¬ a3 < k) (h3 : ¬ (5 : Int32) < a3) (e : k' = (k + (1 : Int32))) : nQ (j + 1) k' := by
  obtain ⟨i, rfl, h1, h2⟩ := h
  have h5 := n_5 h2 hc h3
  exact ⟨i + 1, by rw [e, nI_1], by omega, by omega⟩
theorem n_in {j : Nat} {k a3 : Int32} (h : nQ j k) (hc : ¬ a3 < k) (h3 : ¬ (5 : Int32) < a3) : vp_in k 6 := by
  obtain ⟨i, rfl, h1, h2⟩ := h
  have h5 := n_5 h2 hc h3
  exact vp_in_nI (by omega) (by decide)
theorem n_e {k a3 : Int32} (h : nQ 6 k) (h3 : ¬ (5 : Int32) < a3) : a3 < k := by
  obtain ⟨i, rfl, h1, h2⟩ := h
  rw [Int32.lt_iff_toInt_lt] at h3 ⊢
  rw [nI_toInt h2]
  have e1 : (5 : Int32).toInt = 5 := by decide
  omega
theorem may_1 {a b c : Int32} (h : ¬ f_M_may a b c = 0) : ¬ f_M_isRegister a = 0 := by
  intro q
  apply h
  unfold f_M_may
  rw [if_pos q]
theorem may_2 {a b c : Int32} (h : ¬ f_M_may a b c = 0) : ¬ f_M_isRegister b = 0 := by
  intro q
  apply h
  unfold f_M_may
  rw [if_neg (may_1 h), if_pos q]
theorem may_3 {a b c : Int32} (h : ¬ f_M_may a b c = 0) : ¬ f_M_is c = 0 := by
  intro q
  apply h
  unfold f_M_may
  rw [if_neg (may_1 h), if_neg (may_2 h), if_pos q]
theorem rem_8 {n : Nat} (h : n < 2 ^ 31) : nI n - nI n / (8 : Int32) * (8 : Int32) = nI (n % 8) := pk_rem (d := 8) h (by decide) (by decide)
theorem div_8 {n : Nat} (h : n < 2 ^ 31) : nI n / (8 : Int32) = nI (n / 8) := pk_div (d := 8) h (by decide) (by decide)
theorem is_of {c : Int32} (h : ¬ f_M_is c = 0) : ∃ L R : Nat, L ≤ R ∧ R ≤ 5 ∧ c = nI (8 * L + R) := by
  unfold f_M_is at h
  split at h
  · exact absurd rfl h
  rename_i h0
  obtain ⟨n, hn, rfl⟩ := nI_of h0
  rw [rem_8 hn, div_8 hn] at h
  split at h
  · exact absurd rfl h
  rename_i h1
  split at h
  · exact absurd rfl h
  rename_i h2
  split at h
  · exact absurd rfl h
  rename_i h3
  rw [show (48 : Int32) = nI 48 from rfl, nI_leI (by decide) hn] at h1
  rw [show (6 : Int32) = nI 6 from rfl, nI_leI (by decide) (by omega)] at h2
  rw [nI_ltI (by omega) (by omega)] at h3
  exact ⟨n / 8, n % 8, by omega, by omega, by rw [show 8 * (n / 8) + n % 8 = n by omega]⟩
theorem f_e {L R : Nat} (hR : R ≤ 5) (hL : L ≤ 5) : f_M_first (nI (8 * L + R)) = nI (if L = 0 then 1 else L) := by
  unfold f_M_first
  rw [div_8 (by omega), show (8 : Int32) = nI 8 from rfl]
  by_cases h : L = 0
  · subst h
    rw [if_neg (by rw [nI_leI (by decide) (by omega)]; omega), if_pos rfl]
    rfl
  · rw [if_pos (by rw [nI_leI (by decide) (by omega)]; omega), if_neg h, show (8 * L + R) / 8 = L by omega]
theorem r_e {L R : Nat} (hR : R ≤ 5) (hL : L ≤ 5) : nI (8 * L + R) - nI (8 * L + R) / (8 : Int32) * (8 : Int32) = nI R := by
  rw [rem_8 (by omega), show (8 * L + R) % 8 = R by omega]
theorem may_f {a b c : Int32} (h : ¬ f_M_may a b c = 0) : ¬ f_M_first c < 1 := by
  obtain ⟨L, R, h1, h2, rfl⟩ := is_of (may_3 h)
  rw [f_e h2 (by omega), show (1 : Int32) = nI 1 from rfl, nI_ltI (by split <;> omega) (by decide)]
  split <;> omega
theorem may_l {a b c : Int32} (h : ¬ f_M_may a b c = 0) : ¬ (5 : Int32) < (c - c / (8 : Int32) * (8 : Int32)) := by
  obtain ⟨L, R, h1, h2, rfl⟩ := is_of (may_3 h)
  rw [r_e h2 (by omega), show (5 : Int32) = nI 5 from rfl, nI_ltI (by decide) (by omega)]
  omega
theorem tb_L1 : ∀ k, k < 6 → ∀ R, R < 6 → ∀ F, F < 6 → (decide (((nI k - (5 : Int32)) + nI R) < nI F) = decide (k + R < 5 + F) ∨ F = 0) := by decide +kernel
theorem tb_L2 : ∀ k, k < 6 → ∀ R, R < 6 → ((nI k - (5 : Int32)) + nI R = nI (k + R - 5) ∨ k + R < 5) := by decide +kernel
theorem tb_L (k : Nat) (hk : k < 6) (R : Nat) (hR : R < 6) (F : Nat) (hF : F < 6) (h0 : 0 < F) : (((nI k - (5 : Int32)) + nI R) < nI F ↔ k + R < 5 + F) ∧ (5 ≤ k + R → (nI k - (5 : Int32)) + nI R = nI (k + R - 5)) := by
  refine ⟨?_, fun h => (tb_L2 k hk R hR).resolve_right (by omega)⟩
  exact decide_eq_decide.mp ((tb_L1 k hk R hR F hF).resolve_right (by omega))
theorem in_96L {a b fl x k : Int32} (h : ¬ f_M_may a b fl = 0) (hk : vp_in k 6) (ex : x = ((k - (5 : Int32)) + (fl - fl / (8 : Int32) * (8 : Int32)))) (hc : ¬ x < (f_M_first fl)) : vp_in (((6 : Int32) * b) + x) 96 := by
  have hb := may_2 h
  obtain ⟨L, R, h1, h2, rfl⟩ := is_of (may_3 h)
  obtain ⟨j, hj, rfl⟩ := vp_in_of hk (by decide)
  rw [r_e h2 (by omega)] at ex
  rw [f_e h2 (by omega)] at hc
  have t := tb_L j hj R (by omega) (if L = 0 then 1 else L) (by split <;> omega) (by split <;> omega)
  rw [ex, t.1] at hc
  have hF : 0 < (if L = 0 then 1 else L) := by split <;> omega
  have e := t.2 (by omega)
  rw [ex, e]
  exact in_96 hb (vp_in_nI (by omega) (by decide))
theorem in_96S {a b fl v k : Int32} (h : ¬ f_M_may a b fl = 0) (hk : vp_in k 6) (ev : v = (if k < (f_M_first fl) then (0 : Int32) else (if (fl - fl / (8 : Int32) * (8 : Int32)) < k then (0 : Int32) else (1 : Int32)))) (hc : ¬ v = 0) : vp_in (((((6 : Int32) * b) + k) + (5 : Int32)) - (fl - fl / (8 : Int32) * (8 : Int32))) 96 := by
  have hb := may_2 h
  obtain ⟨L, R, h1, h2, rfl⟩ := is_of (may_3 h)
  obtain ⟨j, hj, rfl⟩ := vp_in_of hk (by decide)
  obtain ⟨i, hi, rfl⟩ := vp_in_of (in_M hb) (by decide)
  rw [r_e h2 (by omega)] at ev ⊢
  rw [ev] at hc
  split at hc
  · exact absurd rfl hc
  split at hc
  · exact absurd rfl hc
  rename_i q1 q2
  rw [nI_ltI (by omega) (by omega)] at q2
  have e : (6 : Int32) * nI i + nI j + (5 : Int32) - nI R = nI (6 * i + j + 5 - R) := by
    rw [show (6 : Int32) = nI 6 from rfl, show (5 : Int32) = nI 5 from rfl, pk_mul, nI_add, nI_add, pk_sub (by omega)]
  rw [e]
  exact vp_in_nI (by omega) (by decide)
theorem nar_is (x : Int32) : narrow .boolean (.int (f_M_is x)) = .int (f_M_is x) := by
  unfold f_M_is
  repeat' split
  all_goals rfl
