/-! ===== the law: holds ===== -/
def pL_holds_287 (N : Nat → Nat) (kk46 : Int32 → Int32 → Int32 → Int32 → Int32 → Int32 → Int32 → Option (Int32)) (kk240 : Int32 → Int32 → Int32 → Int32 → Int32 → Int32 → Int32 → Int32 → Int32 → Option (Int32)) (y1 : Int32) (y2 : Int32) (y3 : Int32) (y4 : Int32) (y5 : Int32) (y7 : Int32) (y8 : Int32) (y11 : Int32) (s0 : Int32) : Option (Int32) := kk240 y1 y2 y3 y4 y5 s0 y7 y8 (y11 + (nI 1))
def pL_holds_282 (N : Nat → Nat) (kk46 : Int32 → Int32 → Int32 → Int32 → Int32 → Int32 → Int32 → Option (Int32)) (kk240 : Int32 → Int32 → Int32 → Int32 → Int32 → Int32 → Int32 → Int32 → Int32 → Option (Int32)) (y1 : Int32) (y2 : Int32) (y3 : Int32) (y4 : Int32) (y5 : Int32) (y7 : Int32) (y8 : Int32) (y11 : Int32) : Option (Int32) := pL_holds_287 N kk46 kk240 y1 y2 y3 y4 y5 y7 y8 y11 (nI 1)
def pL_holds_295 (N : Nat → Nat) (kk46 : Int32 → Int32 → Int32 → Int32 → Int32 → Int32 → Int32 → Option (Int32)) (y1 : Int32) (y2 : Int32) (y3 : Int32) (y4 : Int32) (y5 : Int32) (y6 : Int32) (y7 : Int32) : Option (Int32) := kk46 y1 y2 y3 y4 y5 y6 (y7 + (nI 1))
def pL_holds_240 (N : Nat → Nat) (kk46 : Int32 → Int32 → Int32 → Int32 → Int32 → Int32 → Int32 → Option (Int32)) : Nat → Int32 → Int32 → Int32 → Int32 → Int32 → Int32 → Int32 → Int32 → Int32 → Option (Int32)
  | 0, _, _, _, _, _, _, _, _, _ => none
  | k + 1, y1, y2, y3, y4, y5, y6, y7, y8, y11 => if y2 ≤ y11 then pL_holds_295 N kk46 y1 y2 y3 y4 y5 y6 y7 else if y6 = 0 then pL_holds_295 N kk46 y1 y2 y3 y4 y5 y6 y7 else if ((y8 >>> (y11 &&& 31)) &&& (nI 1)) = 0 then pL_holds_282 N kk46 (fun u0 u1 u2 u3 u4 u5 u6 u7 u8 => pL_holds_240 N kk46 k u0 u1 u2 u3 u4 u5 u6 u7 u8) y1 y2 y3 y4 y5 y7 y8 y11 else if (aEx N y11 (nI 0)) = (aSc N y7 (nI 0)) then pL_holds_282 N kk46 (fun u0 u1 u2 u3 u4 u5 u6 u7 u8 => pL_holds_240 N kk46 k u0 u1 u2 u3 u4 u5 u6 u7 u8) y1 y2 y3 y4 y5 y7 y8 y11 else pL_holds_287 N kk46 (fun u0 u1 u2 u3 u4 u5 u6 u7 u8 => pL_holds_240 N kk46 k u0 u1 u2 u3 u4 u5 u6 u7 u8) y1 y2 y3 y4 y5 y7 y8 y11 (nI 0)
theorem pL_holds_240_s (N : Nat → Nat) (kk46 : Int32 → Int32 → Int32 → Int32 → Int32 → Int32 → Int32 → Option (Int32)) {k : Nat} (y1 : Int32) (y2 : Int32) (y3 : Int32) (y4 : Int32) (y5 : Int32) (y6 : Int32) (y7 : Int32) (y8 : Int32) (y11 : Int32) : pL_holds_240 N kk46 (k + 1) y1 y2 y3 y4 y5 y6 y7 y8 y11 = if y2 ≤ y11 then pL_holds_295 N kk46 y1 y2 y3 y4 y5 y6 y7 else if y6 = 0 then pL_holds_295 N kk46 y1 y2 y3 y4 y5 y6 y7 else if ((y8 >>> (y11 &&& 31)) &&& (nI 1)) = 0 then pL_holds_282 N kk46 (fun u0 u1 u2 u3 u4 u5 u6 u7 u8 => pL_holds_240 N kk46 k u0 u1 u2 u3 u4 u5 u6 u7 u8) y1 y2 y3 y4 y5 y7 y8 y11 else if (aEx N y11 (nI 0)) = (aSc N y7 (nI 0)) then pL_holds_282 N kk46 (fun u0 u1 u2 u3 u4 u5 u6 u7 u8 => pL_holds_240 N kk46 k u0 u1 u2 u3 u4 u5 u6 u7 u8) y1 y2 y3 y4 y5 y7 y8 y11 else pL_holds_287 N kk46 (fun u0 u1 u2 u3 u4 u5 u6 u7 u8 => pL_holds_240 N kk46 k u0 u1 u2 u3 u4 u5 u6 u7 u8) y1 y2 y3 y4 y5 y7 y8 y11 (nI 0) := rfl
def pL_holds_235 (N : Nat → Nat) (kk46 : Int32 → Int32 → Int32 → Int32 → Int32 → Int32 → Int32 → Option (Int32)) (y1 : Int32) (y2 : Int32) (y3 : Int32) (y4 : Int32) (y5 : Int32) (y7 : Int32) (y8 : Int32) (s0 : Int32) : Option (Int32) := pL_holds_240 N kk46 16 y1 y2 y3 y4 y5 s0 y7 y8 (nI 0)
def pL_holds_181 (N : Nat → Nat) (kk46 : Int32 → Int32 → Int32 → Int32 → Int32 → Int32 → Int32 → Option (Int32)) (y1 : Int32) (y2 : Int32) (y3 : Int32) (y4 : Int32) (y5 : Int32) (y7 : Int32) (y8 : Int32) : Option (Int32) := pL_holds_235 N kk46 y1 y2 y3 y4 y5 y7 y8 (nI 0)
def pL_holds_234 (N : Nat → Nat) (kk46 : Int32 → Int32 → Int32 → Int32 → Int32 → Int32 → Int32 → Option (Int32)) (y1 : Int32) (y2 : Int32) (y3 : Int32) (y4 : Int32) (y5 : Int32) (y7 : Int32) (y8 : Int32) : Option (Int32) := pL_holds_235 N kk46 y1 y2 y3 y4 y5 y7 y8 (nI 0)
def pL_holds_227 (N : Nat → Nat) (kk46 : Int32 → Int32 → Int32 → Int32 → Int32 → Int32 → Int32 → Option (Int32)) (y1 : Int32) (y2 : Int32) (y3 : Int32) (y4 : Int32) (y5 : Int32) (y7 : Int32) (y8 : Int32) (s0 : Int32) (s1 : Int32) : Option (Int32) := if s1 = s0 then pL_holds_235 N kk46 y1 y2 y3 y4 y5 y7 y8 (nI 1) else pL_holds_234 N kk46 y1 y2 y3 y4 y5 y7 y8
def pL_holds_209 (N : Nat → Nat) (kk46 : Int32 → Int32 → Int32 → Int32 → Int32 → Int32 → Int32 → Option (Int32)) (y1 : Int32) (y2 : Int32) (y3 : Int32) (y4 : Int32) (y5 : Int32) (y7 : Int32) (y8 : Int32) (s0 : Int32) : Option (Int32) := if (aLa N y7) ≤ 0 then pL_holds_227 N kk46 y1 y2 y3 y4 y5 y7 y8 (nI 0) s0 else pL_holds_227 N kk46 y1 y2 y3 y4 y5 y7 y8 (nI 1) s0
def pL_holds_109 (N : Nat → Nat) (kk46 : Int32 → Int32 → Int32 → Int32 → Int32 → Int32 → Int32 → Option (Int32)) (y1 : Int32) (y2 : Int32) (y3 : Int32) (y5 : Int32) (y7 : Int32) (y8 : Int32) (y9 : Int32) (y10 : Int32) (s0 : Int32) (s1 : Int32) : Option (Int32) := if y10 = 0 then if y8 = 0 then if (aWo N y7 (nI 0)) = (-1) then pL_holds_209 N kk46 y1 y2 y3 (s1 + s0) y5 y7 y8 (nI 1) else pL_holds_209 N kk46 y1 y2 y3 (s1 + s0) y5 y7 y8 (nI 0) else pL_holds_234 N kk46 y1 y2 y3 (s1 + s0) y5 y7 y8 else (pL_bits y8).bind fun v3 => if v3 = (aSc N y7 (nI 1)) then (pL_bits y9).bind fun v6 => (pL_bits y8).bind fun v7 => if v6 = v7 then if (y9 &&& (aSc N y7 (nI 8))) = 0 then if (aWo N y7 (nI 0)) = (-1) then pL_holds_235 N kk46 y1 y2 y3 (s1 + s0) y5 y7 y8 (nI 1) else pL_holds_181 N kk46 y1 y2 y3 (s1 + s0) y5 y7 y8 else pL_holds_181 N kk46 y1 y2 y3 (s1 + s0) y5 y7 y8 else pL_holds_181 N kk46 y1 y2 y3 (s1 + s0) y5 y7 y8 else pL_holds_181 N kk46 y1 y2 y3 (s1 + s0) y5 y7 y8
def pL_holds_95 (N : Nat → Nat) (kk46 : Int32 → Int32 → Int32 → Int32 → Int32 → Int32 → Int32 → Option (Int32)) (y1 : Int32) (y2 : Int32) (y3 : Int32) (y4 : Int32) (y5 : Int32) (y7 : Int32) (y8 : Int32) (y9 : Int32) (s0 : Int32) : Option (Int32) := if s0 = 0 then pL_holds_109 N kk46 y1 y2 y3 y5 y7 y8 y9 s0 (nI 0) y4 else pL_holds_109 N kk46 y1 y2 y3 y5 y7 y8 y9 s0 (nI 1) y4
def pL_holds_371 (N : Nat → Nat) (kk304 : Int32 → Int32 → Int32 → Int32 → Int32 → Int32 → Int32 → Option (Int32)) (y1 : Int32) (y2 : Int32) (y3 : Int32) (y4 : Int32) (y5 : Int32) (y7 : Int32) (s0 : Int32) : Option (Int32) := kk304 y1 y2 y3 y4 y5 s0 (y7 + (nI 1))
def pL_holds_370 (N : Nat → Nat) (kk304 : Int32 → Int32 → Int32 → Int32 → Int32 → Int32 → Int32 → Option (Int32)) (y1 : Int32) (y2 : Int32) (y3 : Int32) (y4 : Int32) (y5 : Int32) (y7 : Int32) : Option (Int32) := pL_holds_371 N kk304 y1 y2 y3 y4 y5 y7 (nI 0)
def pL_holds_475 (N : Nat → Nat) (kk399 : Int32 → Int32 → Int32 → Int32 → Int32 → Int32 → Int32 → Option (Int32)) (y2 : Int32) (y4 : Int32) (y5 : Int32) (y7 : Int32) (y8 : Int32) (y9 : Int32) (s0 : Int32) : Option (Int32) := kk399 y2 y4 y5 s0 y7 y8 (y9 + (nI 1))
def pL_holds_470 (N : Nat → Nat) (kk399 : Int32 → Int32 → Int32 → Int32 → Int32 → Int32 → Int32 → Option (Int32)) (y2 : Int32) (y4 : Int32) (y5 : Int32) (y7 : Int32) (y8 : Int32) (y9 : Int32) : Option (Int32) := pL_holds_475 N kk399 y2 y4 y5 y7 y8 y9 (nI 1)
def pL_holds_474 (N : Nat → Nat) (kk399 : Int32 → Int32 → Int32 → Int32 → Int32 → Int32 → Int32 → Option (Int32)) (y2 : Int32) (y4 : Int32) (y5 : Int32) (y7 : Int32) (y8 : Int32) (y9 : Int32) : Option (Int32) := pL_holds_475 N kk399 y2 y4 y5 y7 y8 y9 (nI 0)
def pL_holds_455 (N : Nat → Nat) (kk399 : Int32 → Int32 → Int32 → Int32 → Int32 → Int32 → Int32 → Option (Int32)) (y2 : Int32) (y4 : Int32) (y5 : Int32) (y7 : Int32) (y8 : Int32) (y9 : Int32) (y10 : Int32) (s0 : Int32) (s1 : Int32) : Option (Int32) := if s1 = s0 then if y10 < (nI 5) then pL_holds_470 N kk399 y2 y4 y5 y7 y8 y9 else if y8 = (-1) then pL_holds_474 N kk399 y2 y4 y5 y7 y8 y9 else pL_holds_470 N kk399 y2 y4 y5 y7 y8 y9 else pL_holds_474 N kk399 y2 y4 y5 y7 y8 y9
def pL_holds_454 (N : Nat → Nat) (kk399 : Int32 → Int32 → Int32 → Int32 → Int32 → Int32 → Int32 → Option (Int32)) (y2 : Int32) (y4 : Int32) (y5 : Int32) (y7 : Int32) (y8 : Int32) (y9 : Int32) (y10 : Int32) (s0 : Int32) : Option (Int32) := pL_holds_455 N kk399 y2 y4 y5 y7 y8 y9 y10 (nI 0) s0
def pL_holds_433 (N : Nat → Nat) (kk399 : Int32 → Int32 → Int32 → Int32 → Int32 → Int32 → Int32 → Option (Int32)) (y2 : Int32) (y4 : Int32) (y5 : Int32) (y7 : Int32) (y8 : Int32) (y9 : Int32) (y10 : Int32) (s0 : Int32) : Option (Int32) := if y8 = (-1) then pL_holds_454 N kk399 y2 y4 y5 y7 y8 y9 y10 s0 else if ((y8 >>> (y9 &&& 31)) &&& (nI 1)) = (nI 1) then pL_holds_455 N kk399 y2 y4 y5 y7 y8 y9 y10 (nI 1) s0 else pL_holds_454 N kk399 y2 y4 y5 y7 y8 y9 y10 s0
def pL_holds_566 (N : Nat → Nat)  (y6 : Int32) : Option (Int32) := bz y6
def pL_holds_717 (N : Nat → Nat)  (s0 : Int32) : Option (Int32) := bz s0
def pL_holds_716 (N : Nat → Nat)   : Option (Int32) := pL_holds_717 N  (nI 0)
def pL_holds_648 (N : Nat → Nat)  (y7 : Int32) (y8 : Int32) (y12 : Int32) : Option (Int32) := (pL_bits y8).bind fun v1 => if v1 = (aSc N y7 (nI 1)) then (pL_facesOf N y8).bind fun v4 => if (v4 &&& (aSc N y7 (nI 8))) = 0 then (pL_facesOf N y8).bind fun v11 => (pL_bits (y12 &&& (v11 ^^^ (-1)))).bind fun v14 => if (aWo N y7 (nI 3)) = v14 then pL_holds_717 N  (nI 1) else pL_holds_716 N   else pL_holds_716 N   else pL_holds_716 N  
def pL_holds_553 (N : Nat → Nat)  (y7 : Int32) (y8 : Int32) (y9 : Int32) (s0 : Int32) : Option (Int32) := if s0 = 0 then pL_holds_566 N  s0 else if y8 = (-1) then pL_holds_566 N  s0 else if ((aWo N y7 (nI 1)) + (aWo N y7 (nI 2))) < ((aWo N y9 (nI 1)) + (aWo N y9 (nI 2))) then pL_holds_716 N   else if ((aWo N y9 (nI 1)) + (aWo N y9 (nI 2))) < ((aWo N y7 (nI 1)) + (aWo N y7 (nI 2))) then pL_holds_648 N  y7 y8 (aSc N y7 (nI 7)) else if y7 < y9 then pL_holds_716 N   else pL_holds_648 N  y7 y8 (aSc N y7 (nI 7))
def pL_holds_548 (N : Nat → Nat)  (y7 : Int32) (y8 : Int32) (y9 : Int32) : Option (Int32) := pL_holds_553 N  y7 y8 y9 (nI 1)
def pL_holds_552 (N : Nat → Nat)  (y7 : Int32) (y8 : Int32) (y9 : Int32) : Option (Int32) := pL_holds_553 N  y7 y8 y9 (nI 0)
def pL_holds_483 (N : Nat → Nat)  (y4 : Int32) (y5 : Int32) (y6 : Int32) (y7 : Int32) (y8 : Int32) : Option (Int32) := if y6 = 0 then pL_holds_552 N  y7 y8 (aCh N) else if (aAb N (nI 2)) = y4 then if ((aAb N (nI 4)) + (aAb N (nI 5))) = y5 then if (aCh N) = (-1) then pL_holds_548 N  y7 y8 (aCh N) else if (aWo N (aCh N) (nI 0)) ≤ 0 then pL_holds_552 N  y7 y8 (aCh N) else pL_holds_548 N  y7 y8 (aCh N) else pL_holds_552 N  y7 y8 (aCh N) else pL_holds_552 N  y7 y8 (aCh N)
def pL_holds_399 (N : Nat → Nat)  : Nat → Int32 → Int32 → Int32 → Int32 → Int32 → Int32 → Int32 → Option (Int32)
  | 0, _, _, _, _, _, _, _ => none
  | k + 1, y2, y4, y5, y6, y7, y8, y9 => if y2 ≤ y9 then pL_holds_483 N  y4 y5 y6 y7 y8 else if y6 = 0 then pL_holds_483 N  y4 y5 y6 y7 y8 else if (aWh N y7 y9) = 0 then pL_holds_433 N (fun u0 u1 u2 u3 u4 u5 u6 => pL_holds_399 N  k u0 u1 u2 u3 u4 u5 u6) y2 y4 y5 y7 y8 y9 (aWh N y7 y9) (nI 1) else pL_holds_433 N (fun u0 u1 u2 u3 u4 u5 u6 => pL_holds_399 N  k u0 u1 u2 u3 u4 u5 u6) y2 y4 y5 y7 y8 y9 (aWh N y7 y9) (nI 0)
theorem pL_holds_399_s (N : Nat → Nat)  {k : Nat} (y2 : Int32) (y4 : Int32) (y5 : Int32) (y6 : Int32) (y7 : Int32) (y8 : Int32) (y9 : Int32) : pL_holds_399 N  (k + 1) y2 y4 y5 y6 y7 y8 y9 = if y2 ≤ y9 then pL_holds_483 N  y4 y5 y6 y7 y8 else if y6 = 0 then pL_holds_483 N  y4 y5 y6 y7 y8 else if (aWh N y7 y9) = 0 then pL_holds_433 N (fun u0 u1 u2 u3 u4 u5 u6 => pL_holds_399 N  k u0 u1 u2 u3 u4 u5 u6) y2 y4 y5 y7 y8 y9 (aWh N y7 y9) (nI 1) else pL_holds_433 N (fun u0 u1 u2 u3 u4 u5 u6 => pL_holds_399 N  k u0 u1 u2 u3 u4 u5 u6) y2 y4 y5 y7 y8 y9 (aWh N y7 y9) (nI 0) := rfl
def pL_holds_304 (N : Nat → Nat)  : Nat → Int32 → Int32 → Int32 → Int32 → Int32 → Int32 → Int32 → Option (Int32)
  | 0, _, _, _, _, _, _, _ => none
  | k + 1, y1, y2, y3, y4, y5, y6, y7 => if y2 ≤ y7 then if ¬ y3 = 0 then pL_holds_399 N  16 y2 y4 y5 y6 (y1 - y1 / y3 * y3) (aWo N (y1 - y1 / y3 * y3) (nI 0)) (nI 0) else none else if y6 = 0 then pL_holds_370 N (fun u0 u1 u2 u3 u4 u5 u6 => pL_holds_304 N  k u0 u1 u2 u3 u4 u5 u6) y1 y2 y3 y4 (y5 + (aEx N y7 (nI 6))) y7 else if (aEx N y7 (nI 2)) < (aEx N y7 (nI 3)) then pL_holds_370 N (fun u0 u1 u2 u3 u4 u5 u6 => pL_holds_304 N  k u0 u1 u2 u3 u4 u5 u6) y1 y2 y3 y4 (y5 + (aEx N y7 (nI 6))) y7 else if (nI 960) < (aEx N y7 (nI 2)) then pL_holds_370 N (fun u0 u1 u2 u3 u4 u5 u6 => pL_holds_304 N  k u0 u1 u2 u3 u4 u5 u6) y1 y2 y3 y4 (y5 + (aEx N y7 (nI 6))) y7 else pL_holds_371 N (fun u0 u1 u2 u3 u4 u5 u6 => pL_holds_304 N  k u0 u1 u2 u3 u4 u5 u6) y1 y2 y3 y4 (y5 + (aEx N y7 (nI 6))) y7 (nI 1)
theorem pL_holds_304_s (N : Nat → Nat)  {k : Nat} (y1 : Int32) (y2 : Int32) (y3 : Int32) (y4 : Int32) (y5 : Int32) (y6 : Int32) (y7 : Int32) : pL_holds_304 N  (k + 1) y1 y2 y3 y4 y5 y6 y7 = if y2 ≤ y7 then if ¬ y3 = 0 then pL_holds_399 N  16 y2 y4 y5 y6 (y1 - y1 / y3 * y3) (aWo N (y1 - y1 / y3 * y3) (nI 0)) (nI 0) else none else if y6 = 0 then pL_holds_370 N (fun u0 u1 u2 u3 u4 u5 u6 => pL_holds_304 N  k u0 u1 u2 u3 u4 u5 u6) y1 y2 y3 y4 (y5 + (aEx N y7 (nI 6))) y7 else if (aEx N y7 (nI 2)) < (aEx N y7 (nI 3)) then pL_holds_370 N (fun u0 u1 u2 u3 u4 u5 u6 => pL_holds_304 N  k u0 u1 u2 u3 u4 u5 u6) y1 y2 y3 y4 (y5 + (aEx N y7 (nI 6))) y7 else if (nI 960) < (aEx N y7 (nI 2)) then pL_holds_370 N (fun u0 u1 u2 u3 u4 u5 u6 => pL_holds_304 N  k u0 u1 u2 u3 u4 u5 u6) y1 y2 y3 y4 (y5 + (aEx N y7 (nI 6))) y7 else pL_holds_371 N (fun u0 u1 u2 u3 u4 u5 u6 => pL_holds_304 N  k u0 u1 u2 u3 u4 u5 u6) y1 y2 y3 y4 (y5 + (aEx N y7 (nI 6))) y7 (nI 1) := rfl
def pL_holds_301 (N : Nat → Nat)  (y1 : Int32) (y2 : Int32) (y3 : Int32) (y4 : Int32) (y5 : Int32) (y6 : Int32) : Option (Int32) := pL_holds_304 N  16 y1 y2 y3 y4 y5 y6 (nI 0)
def pL_holds_46 (N : Nat → Nat)  : Nat → Int32 → Int32 → Int32 → Int32 → Int32 → Int32 → Int32 → Option (Int32)
  | 0, _, _, _, _, _, _, _ => none
  | k + 1, y1, y2, y3, y4, y5, y6, y7 => if y3 ≤ y7 then pL_holds_301 N  y1 y2 y3 y4 y5 y6 else if y6 = 0 then pL_holds_301 N  y1 y2 y3 y4 y5 y6 else (pL_facesOf N (aSc N y7 (nI 6))).bind fun v3 => if (aSc N y7 (nI 5)) = (nI 1) then pL_holds_95 N (fun u0 u1 u2 u3 u4 u5 u6 => pL_holds_46 N  k u0 u1 u2 u3 u4 u5 u6) y1 y2 y3 y4 y5 y7 (aSc N y7 (nI 6)) v3 (nI 1) else pL_holds_95 N (fun u0 u1 u2 u3 u4 u5 u6 => pL_holds_46 N  k u0 u1 u2 u3 u4 u5 u6) y1 y2 y3 y4 y5 y7 (aSc N y7 (nI 6)) v3 (nI 0)
theorem pL_holds_46_s (N : Nat → Nat)  {k : Nat} (y1 : Int32) (y2 : Int32) (y3 : Int32) (y4 : Int32) (y5 : Int32) (y6 : Int32) (y7 : Int32) : pL_holds_46 N  (k + 1) y1 y2 y3 y4 y5 y6 y7 = if y3 ≤ y7 then pL_holds_301 N  y1 y2 y3 y4 y5 y6 else if y6 = 0 then pL_holds_301 N  y1 y2 y3 y4 y5 y6 else (pL_facesOf N (aSc N y7 (nI 6))).bind fun v3 => if (aSc N y7 (nI 5)) = (nI 1) then pL_holds_95 N (fun u0 u1 u2 u3 u4 u5 u6 => pL_holds_46 N  k u0 u1 u2 u3 u4 u5 u6) y1 y2 y3 y4 y5 y7 (aSc N y7 (nI 6)) v3 (nI 1) else pL_holds_95 N (fun u0 u1 u2 u3 u4 u5 u6 => pL_holds_46 N  k u0 u1 u2 u3 u4 u5 u6) y1 y2 y3 y4 y5 y7 (aSc N y7 (nI 6)) v3 (nI 0) := rfl
def pL_holds_41 (N : Nat → Nat)  (y1 : Int32) (y2 : Int32) (y3 : Int32) (y4 : Int32) (y5 : Int32) (s0 : Int32) : Option (Int32) := pL_holds_46 N  16 y1 y2 y3 y4 y5 s0 (nI 0)
def pL_holds_40 (N : Nat → Nat)  (y1 : Int32) (y2 : Int32) (y3 : Int32) (y4 : Int32) (y5 : Int32) : Option (Int32) := pL_holds_41 N  y1 y2 y3 y4 y5 (nI 0)
def pL_holds (N : Nat → Nat) (x1 : Int32) : Option (Int32) := if (nI 14) < (aAb N (nI 0)) then pL_holds_40 N  x1 (aAb N (nI 0)) (aAb N (nI 1)) (nI 0) (nI 0) else if (nI 10) < (aAb N (nI 1)) then pL_holds_40 N  x1 (aAb N (nI 0)) (aAb N (nI 1)) (nI 0) (nI 0) else pL_holds_41 N  x1 (aAb N (nI 0)) (aAb N (nI 1)) (nI 0) (nI 0) (nI 1)
abbrev rmL_holds : Room := { frames := 12, cells := 2251, slots := 13506, locals := 223 }
set_option maxHeartbeats 4000000 in
set_option maxRecDepth 100000 in
theorem bL_holds_287 {p : Program} {l : Launch} {e : Env} {s : State} {m : MethodId} {args : Array Value} {below : List Frame} {meth : Method} {c9 : Code} {g : va_G} {cy : Nat → ClassId} {tt sa : Nat → Nat} {A9 : Nat → Prop} (hC : CX p s m args meth c9 g cy 13 cL_holds wsM_holds RL) (hr : meth.sig.returnType = some .boolean) (hX : XL l s tt sa A9) {A : AA} {T : Nat} (hT9 : T < 8000) {S : SS} {res : Int32} : ∀ (kk46 : Int32 → Int32 → Int32 → Int32 → Int32 → Int32 → Int32 → Option (Int32)) (n46 : Nat) (hk46 : ∀ (y1 : Int32) (y2 : Int32) (y3 : Int32) (y4 : Int32) (y5 : Int32) (y6 : Int32) (y7 : Int32) (H : HH) (t cells slots : Nat), RP t S H → t + 0 ≤ T → cells + (281 + 123 * n46) ≤ 2251 → slots + 6 * (281 + 123 * n46) ≤ 13506 → kk46 y1 y2 y3 y4 y5 y6 y7 = some res → V p l e (headSpec wsM_holds rmL_holds).room s m args below meth c9 g 13 cells slots (MQ below (QE g A9 res (WP cy A T S)) args s 2251 13506 A9) A9 A9 (WO cy A S H) 46 [(0, .ref A.1), (1, .int y1), (2, .int y2), (3, .int y3), (4, .int y4), (5, .int y5), (6, .int y6), (7, .int y7)] []) (kk240 : Int32 → Int32 → Int32 → Int32 → Int32 → Int32 → Int32 → Int32 → Int32 → Option (Int32)) (n240 : Nat) (hk240 : ∀ (y1 : Int32) (y2 : Int32) (y3 : Int32) (y4 : Int32) (y5 : Int32) (y6 : Int32) (y7 : Int32) (y8 : Int32) (y11 : Int32) (H : HH) (t cells slots : Nat), RP t S H → t + 0 ≤ T → cells + (281 + 123 * n46 + 4 * n240) ≤ 2251 → slots + 6 * (281 + 123 * n46 + 4 * n240) ≤ 13506 → kk240 y1 y2 y3 y4 y5 y6 y7 y8 y11 = some res → V p l e (headSpec wsM_holds rmL_holds).room s m args below meth c9 g 13 cells slots (MQ below (QE g A9 res (WP cy A T S)) args s 2251 13506 A9) A9 A9 (WO cy A S H) 240 [(0, .ref A.1), (1, .int y1), (2, .int y2), (3, .int y3), (4, .int y4), (5, .int y5), (6, .int y6), (7, .int y7), (8, .int y8), (11, .int y11)] []) (y1 : Int32) (y2 : Int32) (y3 : Int32) (y4 : Int32) (y5 : Int32) (y7 : Int32) (y8 : Int32) (y11 : Int32) (s0 : Int32) (H : HH) (t cells slots : Nat) (hI : RP t S H) (ht : t + 0 ≤ T) (hc : cells + (281 + 123 * n46 + 4 * n240) ≤ 2251) (hs : slots + 6 * (281 + 123 * n46 + 4 * n240) ≤ 13506) (h : pL_holds_287 S.1 kk46 kk240 y1 y2 y3 y4 y5 y7 y8 y11 s0 = some res), V p l e (headSpec wsM_holds rmL_holds).room s m args below meth c9 g 13 cells slots (MQ below (QE g A9 res (WP cy A T S)) args s 2251 13506 A9) A9 A9 (WO cy A S H) 287 [(0, .ref A.1), (1, .int y1), (2, .int y2), (3, .int y3), (4, .int y4), (5, .int y5), (7, .int y7), (8, .int y8), (11, .int y11)] [.int s0] := by
  intro kk46 n46 hk46 kk240 n240 hk240 y1 y2 y3 y4 y5 y7 y8 y11 s0 H t cells slots hI ht hc hs h
  unfold pL_holds_287 at h
  refine v_istore hC dL_holds_287 (by decide) [(6, .int s0), (0, .ref A.1), (1, .int y1), (2, .int y2), (3, .int y3), (4, .int y4), (5, .int y5), (7, .int y7), (8, .int y8), (11, .int y11)] rfl rfl ?_
  refine v_iinc hC dL_holds_289 9 rfl (v := (y11 + (nI 1))) rfl (by decide) [(11, .int (y11 + (nI 1))), (6, .int s0), (0, .ref A.1), (1, .int y1), (2, .int y2), (3, .int y3), (4, .int y4), (5, .int y5), (7, .int y7), (8, .int y8)] rfl rfl ?_
  refine v_goto hC (tgt := 240) dL_holds_292 (by decide) ?_
  exact v_sub [2, 3, 4, 5, 6, 7, 1, 8, 9, 0] (lv' := [(0, .ref A.1), (1, .int y1), (2, .int y2), (3, .int y3), (4, .int y4), (5, .int y5), (6, .int s0), (7, .int y7), (8, .int y8), (11, .int (y11 + (nI 1)))]) rfl (hk240 _ _ _ _ _ _ _ _ _ _ _ _ _ hI (by omega) (by omega) (by omega) h)
set_option maxHeartbeats 4000000 in
set_option maxRecDepth 100000 in
theorem bL_holds_282 {p : Program} {l : Launch} {e : Env} {s : State} {m : MethodId} {args : Array Value} {below : List Frame} {meth : Method} {c9 : Code} {g : va_G} {cy : Nat → ClassId} {tt sa : Nat → Nat} {A9 : Nat → Prop} (hC : CX p s m args meth c9 g cy 13 cL_holds wsM_holds RL) (hr : meth.sig.returnType = some .boolean) (hX : XL l s tt sa A9) {A : AA} {T : Nat} (hT9 : T < 8000) {S : SS} {res : Int32} : ∀ (kk46 : Int32 → Int32 → Int32 → Int32 → Int32 → Int32 → Int32 → Option (Int32)) (n46 : Nat) (hk46 : ∀ (y1 : Int32) (y2 : Int32) (y3 : Int32) (y4 : Int32) (y5 : Int32) (y6 : Int32) (y7 : Int32) (H : HH) (t cells slots : Nat), RP t S H → t + 0 ≤ T → cells + (281 + 123 * n46) ≤ 2251 → slots + 6 * (281 + 123 * n46) ≤ 13506 → kk46 y1 y2 y3 y4 y5 y6 y7 = some res → V p l e (headSpec wsM_holds rmL_holds).room s m args below meth c9 g 13 cells slots (MQ below (QE g A9 res (WP cy A T S)) args s 2251 13506 A9) A9 A9 (WO cy A S H) 46 [(0, .ref A.1), (1, .int y1), (2, .int y2), (3, .int y3), (4, .int y4), (5, .int y5), (6, .int y6), (7, .int y7)] []) (kk240 : Int32 → Int32 → Int32 → Int32 → Int32 → Int32 → Int32 → Int32 → Int32 → Option (Int32)) (n240 : Nat) (hk240 : ∀ (y1 : Int32) (y2 : Int32) (y3 : Int32) (y4 : Int32) (y5 : Int32) (y6 : Int32) (y7 : Int32) (y8 : Int32) (y11 : Int32) (H : HH) (t cells slots : Nat), RP t S H → t + 0 ≤ T → cells + (281 + 123 * n46 + 4 * n240) ≤ 2251 → slots + 6 * (281 + 123 * n46 + 4 * n240) ≤ 13506 → kk240 y1 y2 y3 y4 y5 y6 y7 y8 y11 = some res → V p l e (headSpec wsM_holds rmL_holds).room s m args below meth c9 g 13 cells slots (MQ below (QE g A9 res (WP cy A T S)) args s 2251 13506 A9) A9 A9 (WO cy A S H) 240 [(0, .ref A.1), (1, .int y1), (2, .int y2), (3, .int y3), (4, .int y4), (5, .int y5), (6, .int y6), (7, .int y7), (8, .int y8), (11, .int y11)] []) (y1 : Int32) (y2 : Int32) (y3 : Int32) (y4 : Int32) (y5 : Int32) (y7 : Int32) (y8 : Int32) (y11 : Int32) (H : HH) (t cells slots : Nat) (hI : RP t S H) (ht : t + 0 ≤ T) (hc : cells + (281 + 123 * n46 + 4 * n240) ≤ 2251) (hs : slots + 6 * (281 + 123 * n46 + 4 * n240) ≤ 13506) (h : pL_holds_282 S.1 kk46 kk240 y1 y2 y3 y4 y5 y7 y8 y11 = some res), V p l e (headSpec wsM_holds rmL_holds).room s m args below meth c9 g 13 cells slots (MQ below (QE g A9 res (WP cy A T S)) args s 2251 13506 A9) A9 A9 (WO cy A S H) 282 [(0, .ref A.1), (1, .int y1), (2, .int y2), (3, .int y3), (4, .int y4), (5, .int y5), (7, .int y7), (8, .int y8), (11, .int y11)] [] := by
  intro kk46 n46 hk46 kk240 n240 hk240 y1 y2 y3 y4 y5 y7 y8 y11 H t cells slots hI ht hc hs h
  unfold pL_holds_282 at h
  refine v_iconst hC (v := (nI 1)) dL_holds_282 (by decide) rfl ?_
  refine v_goto hC (tgt := 287) dL_holds_283 (by decide) ?_
  exact bL_holds_287 hC hr hX hT9 _ n46 hk46 _ n240 hk240 _ _ _ _ _ _ _ _ _ _ _ _ _ hI (by omega) (by omega) (by omega) h
set_option maxHeartbeats 4000000 in
set_option maxRecDepth 100000 in
theorem bL_holds_295 {p : Program} {l : Launch} {e : Env} {s : State} {m : MethodId} {args : Array Value} {below : List Frame} {meth : Method} {c9 : Code} {g : va_G} {cy : Nat → ClassId} {tt sa : Nat → Nat} {A9 : Nat → Prop} (hC : CX p s m args meth c9 g cy 13 cL_holds wsM_holds RL) (hr : meth.sig.returnType = some .boolean) (hX : XL l s tt sa A9) {A : AA} {T : Nat} (hT9 : T < 8000) {S : SS} {res : Int32} : ∀ (kk46 : Int32 → Int32 → Int32 → Int32 → Int32 → Int32 → Int32 → Option (Int32)) (n46 : Nat) (hk46 : ∀ (y1 : Int32) (y2 : Int32) (y3 : Int32) (y4 : Int32) (y5 : Int32) (y6 : Int32) (y7 : Int32) (H : HH) (t cells slots : Nat), RP t S H → t + 0 ≤ T → cells + (281 + 123 * n46) ≤ 2251 → slots + 6 * (281 + 123 * n46) ≤ 13506 → kk46 y1 y2 y3 y4 y5 y6 y7 = some res → V p l e (headSpec wsM_holds rmL_holds).room s m args below meth c9 g 13 cells slots (MQ below (QE g A9 res (WP cy A T S)) args s 2251 13506 A9) A9 A9 (WO cy A S H) 46 [(0, .ref A.1), (1, .int y1), (2, .int y2), (3, .int y3), (4, .int y4), (5, .int y5), (6, .int y6), (7, .int y7)] []) (y1 : Int32) (y2 : Int32) (y3 : Int32) (y4 : Int32) (y5 : Int32) (y6 : Int32) (y7 : Int32) (H : HH) (t cells slots : Nat) (hI : RP t S H) (ht : t + 0 ≤ T) (hc : cells + (281 + 123 * n46) ≤ 2251) (hs : slots + 6 * (281 + 123 * n46) ≤ 13506) (h : pL_holds_295 S.1 kk46 y1 y2 y3 y4 y5 y6 y7 = some res), V p l e (headSpec wsM_holds rmL_holds).room s m args below meth c9 g 13 cells slots (MQ below (QE g A9 res (WP cy A T S)) args s 2251 13506 A9) A9 A9 (WO cy A S H) 295 [(0, .ref A.1), (1, .int y1), (2, .int y2), (3, .int y3), (4, .int y4), (5, .int y5), (6, .int y6), (7, .int y7)] [] := by
  intro kk46 n46 hk46 y1 y2 y3 y4 y5 y6 y7 H t cells slots hI ht hc hs h
  unfold pL_holds_295 at h
  refine v_iinc hC dL_holds_295 7 rfl (v := (y7 + (nI 1))) rfl (by decide) [(7, .int (y7 + (nI 1))), (0, .ref A.1), (1, .int y1), (2, .int y2), (3, .int y3), (4, .int y4), (5, .int y5), (6, .int y6)] rfl rfl ?_
  refine v_goto hC (tgt := 46) dL_holds_298 (by decide) ?_
  exact v_sub [1, 2, 3, 4, 5, 6, 7, 0] (lv' := [(0, .ref A.1), (1, .int y1), (2, .int y2), (3, .int y3), (4, .int y4), (5, .int y5), (6, .int y6), (7, .int (y7 + (nI 1)))]) rfl (hk46 _ _ _ _ _ _ _ _ _ _ _ hI (by omega) (by omega) (by omega) h)
set_option maxHeartbeats 4000000 in
set_option maxRecDepth 100000 in
theorem bL_holds_240 {p : Program} {l : Launch} {e : Env} {s : State} {m : MethodId} {args : Array Value} {below : List Frame} {meth : Method} {c9 : Code} {g : va_G} {cy : Nat → ClassId} {tt sa : Nat → Nat} {A9 : Nat → Prop} (hC : CX p s m args meth c9 g cy 13 cL_holds wsM_holds RL) (hr : meth.sig.returnType = some .boolean) (hX : XL l s tt sa A9) {A : AA} {T : Nat} (hT9 : T < 8000) {S : SS} {res : Int32} : ∀ (kk46 : Int32 → Int32 → Int32 → Int32 → Int32 → Int32 → Int32 → Option (Int32)) (n46 : Nat) (hk46 : ∀ (y1 : Int32) (y2 : Int32) (y3 : Int32) (y4 : Int32) (y5 : Int32) (y6 : Int32) (y7 : Int32) (H : HH) (t cells slots : Nat), RP t S H → t + 0 ≤ T → cells + (281 + 123 * n46) ≤ 2251 → slots + 6 * (281 + 123 * n46) ≤ 13506 → kk46 y1 y2 y3 y4 y5 y6 y7 = some res → V p l e (headSpec wsM_holds rmL_holds).room s m args below meth c9 g 13 cells slots (MQ below (QE g A9 res (WP cy A T S)) args s 2251 13506 A9) A9 A9 (WO cy A S H) 46 [(0, .ref A.1), (1, .int y1), (2, .int y2), (3, .int y3), (4, .int y4), (5, .int y5), (6, .int y6), (7, .int y7)] []) (k : Nat) (y1 : Int32) (y2 : Int32) (y3 : Int32) (y4 : Int32) (y5 : Int32) (y6 : Int32) (y7 : Int32) (y8 : Int32) (y11 : Int32) (H : HH) (t cells slots : Nat) (hI : RP t S H) (ht : t + 0 ≤ T) (hc : cells + (281 + 123 * n46 + 4 * k) ≤ 2251) (hs : slots + 6 * (281 + 123 * n46 + 4 * k) ≤ 13506) (h : pL_holds_240 S.1 kk46 k y1 y2 y3 y4 y5 y6 y7 y8 y11 = some res), V p l e (headSpec wsM_holds rmL_holds).room s m args below meth c9 g 13 cells slots (MQ below (QE g A9 res (WP cy A T S)) args s 2251 13506 A9) A9 A9 (WO cy A S H) 240 [(0, .ref A.1), (1, .int y1), (2, .int y2), (3, .int y3), (4, .int y4), (5, .int y5), (6, .int y6), (7, .int y7), (8, .int y8), (11, .int y11)] [] := by
  intro kk46 n46 hk46 k
  induction k with
  | zero =>
    intro y1 y2 y3 y4 y5 y6 y7 y8 y11 H t cells slots hI ht hc hs h
    have h : (none : Option _) = some res := h
    cases h
  | succ k ih =>
    intro y1 y2 y3 y4 y5 y6 y7 y8 y11 H t cells slots hI ht hc hs h
    rw [pL_holds_240_s] at h
    refine v_iload hC dL_holds_240 9 rfl rfl ?_
    refine v_iload_n hC dL_holds_242 rfl 2 rfl rfl ?_
    refine v_icmp_ge hC (tgt := 295) dL_holds_243 (by decide) rfl (fun c => ?_) (fun c => ?_)
    · have h := ite_t c h
      exact v_sub [0, 1, 2, 3, 4, 5, 6, 7] (lv' := [(0, .ref A.1), (1, .int y1), (2, .int y2), (3, .int y3), (4, .int y4), (5, .int y5), (6, .int y6), (7, .int y7)]) rfl (bL_holds_295 hC hr hX hT9 _ n46 hk46 _ _ _ _ _ _ _ _ _ _ _ hI (by omega) (by omega) (by omega) h)
    · have h := ite_f c h
      refine v_iload hC dL_holds_246 6 rfl rfl ?_
      refine v_if_eq hC (tgt := 295) dL_holds_248 (by decide) rfl (fun c => ?_) (fun c => ?_)
      · have h := ite_t c h
        exact v_sub [0, 1, 2, 3, 4, 5, 6, 7] (lv' := [(0, .ref A.1), (1, .int y1), (2, .int y2), (3, .int y3), (4, .int y4), (5, .int y5), (6, .int y6), (7, .int y7)]) rfl (bL_holds_295 hC hr hX hT9 _ n46 hk46 _ _ _ _ _ _ _ _ _ _ _ hI (by omega) (by omega) (by omega) h)
      · have h := ite_f c h
        refine v_iload hC dL_holds_251 8 rfl rfl ?_
        refine v_iload hC dL_holds_253 9 rfl rfl ?_
        refine v_ishr hC dL_holds_255 rfl ?_
        refine v_iconst hC (v := (nI 1)) dL_holds_256 (by decide) rfl ?_
        refine v_iand hC dL_holds_257 rfl ?_
        refine v_if_eq hC (tgt := 282) dL_holds_258 (by decide) rfl (fun c => ?_) (fun c => ?_)
        · have h := ite_t c h
          exact v_sub [0, 1, 2, 3, 4, 5, 7, 8, 9] (lv' := [(0, .ref A.1), (1, .int y1), (2, .int y2), (3, .int y3), (4, .int y4), (5, .int y5), (7, .int y7), (8, .int y8), (11, .int y11)]) rfl (bL_holds_282 hC hr hX hT9 _ n46 hk46 _ k ih _ _ _ _ _ _ _ _ _ _ _ _ hI (by omega) (by omega) (by omega) h)
        · have h := ite_f c h
          refine v_aload_n hC dL_holds_261 rfl 0 rfl rfl ?_
          refine v_iconst hC (v := (nI 3)) dL_holds_262 (by decide) rfl ?_
          refine v_iload hC dL_holds_263 9 rfl rfl ?_
          refine v_iconst hC (v := (nI 0)) dL_holds_265 (by decide) rfl ?_
          refine v_iconst hC (v := (nI 0)) dL_holds_266 (by decide) rfl ?_
          refine l_callF hC hX (n := 5) (As := [.ref A.1, .int (nI 3), .int y11, .int (nI 0), .int (nI 0)]) (st := []) (fun w => w) (fun sz => mC_Extra l hX.1 g cy tt sa sz A y11 (nI 0) (nI 0) hI (by omega)) (WR.full rfl) (fun w9 h9 => WR.full (WP_fst h9)) (goodIn_w gM_call) rfl rfl rfl (by decide +kernel) ⟨Nat.le_of_ble_eq_true rfl, Nat.le_of_ble_eq_true rfl⟩ rfl (Nat.le_of_ble_eq_true rfl) rfl ⟨by show _ + 2 ≤ 2251; omega, by show _ + 12 ≤ 13506; omega⟩ dL_holds_267 rfl (fun w9 h9 => ?_)
          obtain ⟨H1, hI2, rfl⟩ := h9
          refine v_eqw (ws' := WO cy A S H1) rfl ?_
          refine v_aload_n hC dL_holds_270 rfl 0 rfl rfl ?_
          refine v_iconst hC (v := (nI 4)) dL_holds_271 (by decide) rfl ?_
          refine v_iload hC dL_holds_272 7 rfl rfl ?_
          refine v_iconst hC (v := (nI 0)) dL_holds_274 (by decide) rfl ?_
          refine v_iconst hC (v := (nI 0)) dL_holds_275 (by decide) rfl ?_
          refine l_callF hC hX (n := 5) (As := [.ref A.1, .int (nI 4), .int y7, .int (nI 0), .int (nI 0)]) (st := [.int (aEx S.1 y11 (nI 0))]) (fun w => w) (fun sz => mC_Scene l hX.1 g cy tt sa sz A y7 (nI 0) (nI 0) hI2 (by omega)) (WR.full rfl) (fun w9 h9 => WR.full (WP_fst h9)) (goodIn_w gM_call) rfl rfl rfl (by decide +kernel) ⟨Nat.le_of_ble_eq_true rfl, Nat.le_of_ble_eq_true rfl⟩ rfl (Nat.le_of_ble_eq_true rfl) rfl ⟨by show _ + 2 ≤ 2251; omega, by show _ + 12 ≤ 13506; omega⟩ dL_holds_276 rfl (fun w9 h9 => ?_)
          obtain ⟨H3, hI4, rfl⟩ := h9
          refine v_eqw (ws' := WO cy A S H3) rfl ?_
          refine v_icmp_ne hC (tgt := 286) dL_holds_279 (by decide) rfl (fun c => ?_) (fun c => ?_)
          · have h := ite_f c h
            refine v_iconst hC (v := (nI 0)) dL_holds_286 (by decide) rfl ?_
            exact v_sub [0, 1, 2, 3, 4, 5, 7, 8, 9] (lv' := [(0, .ref A.1), (1, .int y1), (2, .int y2), (3, .int y3), (4, .int y4), (5, .int y5), (7, .int y7), (8, .int y8), (11, .int y11)]) rfl (bL_holds_287 hC hr hX hT9 _ n46 hk46 _ k ih _ _ _ _ _ _ _ _ _ _ _ _ _ hI4 (by omega) (by omega) (by omega) h)
          · have h := ite_t c h
            exact v_sub [0, 1, 2, 3, 4, 5, 7, 8, 9] (lv' := [(0, .ref A.1), (1, .int y1), (2, .int y2), (3, .int y3), (4, .int y4), (5, .int y5), (7, .int y7), (8, .int y8), (11, .int y11)]) rfl (bL_holds_282 hC hr hX hT9 _ n46 hk46 _ k ih _ _ _ _ _ _ _ _ _ _ _ _ hI4 (by omega) (by omega) (by omega) h)
set_option maxHeartbeats 4000000 in
set_option maxRecDepth 100000 in
theorem bL_holds_235 {p : Program} {l : Launch} {e : Env} {s : State} {m : MethodId} {args : Array Value} {below : List Frame} {meth : Method} {c9 : Code} {g : va_G} {cy : Nat → ClassId} {tt sa : Nat → Nat} {A9 : Nat → Prop} (hC : CX p s m args meth c9 g cy 13 cL_holds wsM_holds RL) (hr : meth.sig.returnType = some .boolean) (hX : XL l s tt sa A9) {A : AA} {T : Nat} (hT9 : T < 8000) {S : SS} {res : Int32} : ∀ (kk46 : Int32 → Int32 → Int32 → Int32 → Int32 → Int32 → Int32 → Option (Int32)) (n46 : Nat) (hk46 : ∀ (y1 : Int32) (y2 : Int32) (y3 : Int32) (y4 : Int32) (y5 : Int32) (y6 : Int32) (y7 : Int32) (H : HH) (t cells slots : Nat), RP t S H → t + 0 ≤ T → cells + (281 + 123 * n46) ≤ 2251 → slots + 6 * (281 + 123 * n46) ≤ 13506 → kk46 y1 y2 y3 y4 y5 y6 y7 = some res → V p l e (headSpec wsM_holds rmL_holds).room s m args below meth c9 g 13 cells slots (MQ below (QE g A9 res (WP cy A T S)) args s 2251 13506 A9) A9 A9 (WO cy A S H) 46 [(0, .ref A.1), (1, .int y1), (2, .int y2), (3, .int y3), (4, .int y4), (5, .int y5), (6, .int y6), (7, .int y7)] []) (y1 : Int32) (y2 : Int32) (y3 : Int32) (y4 : Int32) (y5 : Int32) (y7 : Int32) (y8 : Int32) (s0 : Int32) (H : HH) (t cells slots : Nat) (hI : RP t S H) (ht : t + 0 ≤ T) (hc : cells + (345 + 123 * n46) ≤ 2251) (hs : slots + 6 * (345 + 123 * n46) ≤ 13506) (h : pL_holds_235 S.1 kk46 y1 y2 y3 y4 y5 y7 y8 s0 = some res), V p l e (headSpec wsM_holds rmL_holds).room s m args below meth c9 g 13 cells slots (MQ below (QE g A9 res (WP cy A T S)) args s 2251 13506 A9) A9 A9 (WO cy A S H) 235 [(0, .ref A.1), (1, .int y1), (2, .int y2), (3, .int y3), (4, .int y4), (5, .int y5), (7, .int y7), (8, .int y8)] [.int s0] := by
  intro kk46 n46 hk46 y1 y2 y3 y4 y5 y7 y8 s0 H t cells slots hI ht hc hs h
  unfold pL_holds_235 at h
  refine v_istore hC dL_holds_235 (by decide) [(6, .int s0), (0, .ref A.1), (1, .int y1), (2, .int y2), (3, .int y3), (4, .int y4), (5, .int y5), (7, .int y7), (8, .int y8)] rfl rfl ?_
  refine v_iconst hC (v := (nI 0)) dL_holds_237 (by decide) rfl ?_
  refine v_istore hC dL_holds_238 (by decide) [(11, .int (nI 0)), (6, .int s0), (0, .ref A.1), (1, .int y1), (2, .int y2), (3, .int y3), (4, .int y4), (5, .int y5), (7, .int y7), (8, .int y8)] rfl rfl ?_
  exact v_sub [2, 3, 4, 5, 6, 7, 1, 8, 9, 0] (lv' := [(0, .ref A.1), (1, .int y1), (2, .int y2), (3, .int y3), (4, .int y4), (5, .int y5), (6, .int s0), (7, .int y7), (8, .int y8), (11, .int (nI 0))]) rfl (bL_holds_240 hC hr hX hT9 _ n46 hk46 16 _ _ _ _ _ _ _ _ _ _ _ _ _ hI (by omega) (by omega) (by omega) h)
set_option maxHeartbeats 4000000 in
set_option maxRecDepth 100000 in
theorem bL_holds_181 {p : Program} {l : Launch} {e : Env} {s : State} {m : MethodId} {args : Array Value} {below : List Frame} {meth : Method} {c9 : Code} {g : va_G} {cy : Nat → ClassId} {tt sa : Nat → Nat} {A9 : Nat → Prop} (hC : CX p s m args meth c9 g cy 13 cL_holds wsM_holds RL) (hr : meth.sig.returnType = some .boolean) (hX : XL l s tt sa A9) {A : AA} {T : Nat} (hT9 : T < 8000) {S : SS} {res : Int32} : ∀ (kk46 : Int32 → Int32 → Int32 → Int32 → Int32 → Int32 → Int32 → Option (Int32)) (n46 : Nat) (hk46 : ∀ (y1 : Int32) (y2 : Int32) (y3 : Int32) (y4 : Int32) (y5 : Int32) (y6 : Int32) (y7 : Int32) (H : HH) (t cells slots : Nat), RP t S H → t + 0 ≤ T → cells + (281 + 123 * n46) ≤ 2251 → slots + 6 * (281 + 123 * n46) ≤ 13506 → kk46 y1 y2 y3 y4 y5 y6 y7 = some res → V p l e (headSpec wsM_holds rmL_holds).room s m args below meth c9 g 13 cells slots (MQ below (QE g A9 res (WP cy A T S)) args s 2251 13506 A9) A9 A9 (WO cy A S H) 46 [(0, .ref A.1), (1, .int y1), (2, .int y2), (3, .int y3), (4, .int y4), (5, .int y5), (6, .int y6), (7, .int y7)] []) (y1 : Int32) (y2 : Int32) (y3 : Int32) (y4 : Int32) (y5 : Int32) (y7 : Int32) (y8 : Int32) (H : HH) (t cells slots : Nat) (hI : RP t S H) (ht : t + 0 ≤ T) (hc : cells + (345 + 123 * n46) ≤ 2251) (hs : slots + 6 * (345 + 123 * n46) ≤ 13506) (h : pL_holds_181 S.1 kk46 y1 y2 y3 y4 y5 y7 y8 = some res), V p l e (headSpec wsM_holds rmL_holds).room s m args below meth c9 g 13 cells slots (MQ below (QE g A9 res (WP cy A T S)) args s 2251 13506 A9) A9 A9 (WO cy A S H) 181 [(0, .ref A.1), (1, .int y1), (2, .int y2), (3, .int y3), (4, .int y4), (5, .int y5), (7, .int y7), (8, .int y8)] [] := by
  intro kk46 n46 hk46 y1 y2 y3 y4 y5 y7 y8 H t cells slots hI ht hc hs h
  unfold pL_holds_181 at h
  refine v_iconst hC (v := (nI 0)) dL_holds_181 (by decide) rfl ?_
  refine v_goto hC (tgt := 235) dL_holds_182 (by decide) ?_
  exact bL_holds_235 hC hr hX hT9 _ n46 hk46 _ _ _ _ _ _ _ _ _ _ _ _ hI (by omega) (by omega) (by omega) h
set_option maxHeartbeats 4000000 in
set_option maxRecDepth 100000 in
theorem bL_holds_234 {p : Program} {l : Launch} {e : Env} {s : State} {m : MethodId} {args : Array Value} {below : List Frame} {meth : Method} {c9 : Code} {g : va_G} {cy : Nat → ClassId} {tt sa : Nat → Nat} {A9 : Nat → Prop} (hC : CX p s m args meth c9 g cy 13 cL_holds wsM_holds RL) (hr : meth.sig.returnType = some .boolean) (hX : XL l s tt sa A9) {A : AA} {T : Nat} (hT9 : T < 8000) {S : SS} {res : Int32} : ∀ (kk46 : Int32 → Int32 → Int32 → Int32 → Int32 → Int32 → Int32 → Option (Int32)) (n46 : Nat) (hk46 : ∀ (y1 : Int32) (y2 : Int32) (y3 : Int32) (y4 : Int32) (y5 : Int32) (y6 : Int32) (y7 : Int32) (H : HH) (t cells slots : Nat), RP t S H → t + 0 ≤ T → cells + (281 + 123 * n46) ≤ 2251 → slots + 6 * (281 + 123 * n46) ≤ 13506 → kk46 y1 y2 y3 y4 y5 y6 y7 = some res → V p l e (headSpec wsM_holds rmL_holds).room s m args below meth c9 g 13 cells slots (MQ below (QE g A9 res (WP cy A T S)) args s 2251 13506 A9) A9 A9 (WO cy A S H) 46 [(0, .ref A.1), (1, .int y1), (2, .int y2), (3, .int y3), (4, .int y4), (5, .int y5), (6, .int y6), (7, .int y7)] []) (y1 : Int32) (y2 : Int32) (y3 : Int32) (y4 : Int32) (y5 : Int32) (y7 : Int32) (y8 : Int32) (H : HH) (t cells slots : Nat) (hI : RP t S H) (ht : t + 0 ≤ T) (hc : cells + (345 + 123 * n46) ≤ 2251) (hs : slots + 6 * (345 + 123 * n46) ≤ 13506) (h : pL_holds_234 S.1 kk46 y1 y2 y3 y4 y5 y7 y8 = some res), V p l e (headSpec wsM_holds rmL_holds).room s m args below meth c9 g 13 cells slots (MQ below (QE g A9 res (WP cy A T S)) args s 2251 13506 A9) A9 A9 (WO cy A S H) 234 [(0, .ref A.1), (1, .int y1), (2, .int y2), (3, .int y3), (4, .int y4), (5, .int y5), (7, .int y7), (8, .int y8)] [] := by
  intro kk46 n46 hk46 y1 y2 y3 y4 y5 y7 y8 H t cells slots hI ht hc hs h
  unfold pL_holds_234 at h
  refine v_iconst hC (v := (nI 0)) dL_holds_234 (by decide) rfl ?_
  exact bL_holds_235 hC hr hX hT9 _ n46 hk46 _ _ _ _ _ _ _ _ _ _ _ _ hI (by omega) (by omega) (by omega) h
set_option maxHeartbeats 4000000 in
set_option maxRecDepth 100000 in
theorem bL_holds_227 {p : Program} {l : Launch} {e : Env} {s : State} {m : MethodId} {args : Array Value} {below : List Frame} {meth : Method} {c9 : Code} {g : va_G} {cy : Nat → ClassId} {tt sa : Nat → Nat} {A9 : Nat → Prop} (hC : CX p s m args meth c9 g cy 13 cL_holds wsM_holds RL) (hr : meth.sig.returnType = some .boolean) (hX : XL l s tt sa A9) {A : AA} {T : Nat} (hT9 : T < 8000) {S : SS} {res : Int32} : ∀ (kk46 : Int32 → Int32 → Int32 → Int32 → Int32 → Int32 → Int32 → Option (Int32)) (n46 : Nat) (hk46 : ∀ (y1 : Int32) (y2 : Int32) (y3 : Int32) (y4 : Int32) (y5 : Int32) (y6 : Int32) (y7 : Int32) (H : HH) (t cells slots : Nat), RP t S H → t + 0 ≤ T → cells + (281 + 123 * n46) ≤ 2251 → slots + 6 * (281 + 123 * n46) ≤ 13506 → kk46 y1 y2 y3 y4 y5 y6 y7 = some res → V p l e (headSpec wsM_holds rmL_holds).room s m args below meth c9 g 13 cells slots (MQ below (QE g A9 res (WP cy A T S)) args s 2251 13506 A9) A9 A9 (WO cy A S H) 46 [(0, .ref A.1), (1, .int y1), (2, .int y2), (3, .int y3), (4, .int y4), (5, .int y5), (6, .int y6), (7, .int y7)] []) (y1 : Int32) (y2 : Int32) (y3 : Int32) (y4 : Int32) (y5 : Int32) (y7 : Int32) (y8 : Int32) (s0 : Int32) (s1 : Int32) (H : HH) (t cells slots : Nat) (hI : RP t S H) (ht : t + 0 ≤ T) (hc : cells + (345 + 123 * n46) ≤ 2251) (hs : slots + 6 * (345 + 123 * n46) ≤ 13506) (h : pL_holds_227 S.1 kk46 y1 y2 y3 y4 y5 y7 y8 s0 s1 = some res), V p l e (headSpec wsM_holds rmL_holds).room s m args below meth c9 g 13 cells slots (MQ below (QE g A9 res (WP cy A T S)) args s 2251 13506 A9) A9 A9 (WO cy A S H) 227 [(0, .ref A.1), (1, .int y1), (2, .int y2), (3, .int y3), (4, .int y4), (5, .int y5), (7, .int y7), (8, .int y8)] [.int s0, .int s1] := by
  intro kk46 n46 hk46 y1 y2 y3 y4 y5 y7 y8 s0 s1 H t cells slots hI ht hc hs h
  unfold pL_holds_227 at h
  refine v_icmp_ne hC (tgt := 234) dL_holds_227 (by decide) rfl (fun c => ?_) (fun c => ?_)
  · have h := ite_f c h
    exact bL_holds_234 hC hr hX hT9 _ n46 hk46 _ _ _ _ _ _ _ _ _ _ _ hI (by omega) (by omega) (by omega) h
  · have h := ite_t c h
    refine v_iconst hC (v := (nI 1)) dL_holds_230 (by decide) rfl ?_
    refine v_goto hC (tgt := 235) dL_holds_231 (by decide) ?_
    exact bL_holds_235 hC hr hX hT9 _ n46 hk46 _ _ _ _ _ _ _ _ _ _ _ _ hI (by omega) (by omega) (by omega) h
set_option maxHeartbeats 4000000 in
set_option maxRecDepth 100000 in
theorem bL_holds_209 {p : Program} {l : Launch} {e : Env} {s : State} {m : MethodId} {args : Array Value} {below : List Frame} {meth : Method} {c9 : Code} {g : va_G} {cy : Nat → ClassId} {tt sa : Nat → Nat} {A9 : Nat → Prop} (hC : CX p s m args meth c9 g cy 13 cL_holds wsM_holds RL) (hr : meth.sig.returnType = some .boolean) (hX : XL l s tt sa A9) {A : AA} {T : Nat} (hT9 : T < 8000) {S : SS} {res : Int32} : ∀ (kk46 : Int32 → Int32 → Int32 → Int32 → Int32 → Int32 → Int32 → Option (Int32)) (n46 : Nat) (hk46 : ∀ (y1 : Int32) (y2 : Int32) (y3 : Int32) (y4 : Int32) (y5 : Int32) (y6 : Int32) (y7 : Int32) (H : HH) (t cells slots : Nat), RP t S H → t + 0 ≤ T → cells + (281 + 123 * n46) ≤ 2251 → slots + 6 * (281 + 123 * n46) ≤ 13506 → kk46 y1 y2 y3 y4 y5 y6 y7 = some res → V p l e (headSpec wsM_holds rmL_holds).room s m args below meth c9 g 13 cells slots (MQ below (QE g A9 res (WP cy A T S)) args s 2251 13506 A9) A9 A9 (WO cy A S H) 46 [(0, .ref A.1), (1, .int y1), (2, .int y2), (3, .int y3), (4, .int y4), (5, .int y5), (6, .int y6), (7, .int y7)] []) (y1 : Int32) (y2 : Int32) (y3 : Int32) (y4 : Int32) (y5 : Int32) (y7 : Int32) (y8 : Int32) (s0 : Int32) (H : HH) (t cells slots : Nat) (hI : RP t S H) (ht : t + 0 ≤ T) (hc : cells + (346 + 123 * n46) ≤ 2251) (hs : slots + 6 * (346 + 123 * n46) ≤ 13506) (h : pL_holds_209 S.1 kk46 y1 y2 y3 y4 y5 y7 y8 s0 = some res), V p l e (headSpec wsM_holds rmL_holds).room s m args below meth c9 g 13 cells slots (MQ below (QE g A9 res (WP cy A T S)) args s 2251 13506 A9) A9 A9 (WO cy A S H) 209 [(0, .ref A.1), (1, .int y1), (2, .int y2), (3, .int y3), (4, .int y4), (5, .int y5), (7, .int y7), (8, .int y8)] [.int s0] := by
  intro kk46 n46 hk46 y1 y2 y3 y4 y5 y7 y8 s0 H t cells slots hI ht hc hs h
  unfold pL_holds_209 at h
  refine v_aload_n hC dL_holds_209 rfl 0 rfl rfl ?_
  refine v_bipush hC (v := (nI 13)) dL_holds_210 (by decide) rfl ?_
  refine v_iload hC dL_holds_212 6 rfl rfl ?_
  refine v_iconst hC (v := (nI 0)) dL_holds_214 (by decide) rfl ?_
  refine v_iconst hC (v := (nI 0)) dL_holds_215 (by decide) rfl ?_
  refine l_callF hC hX (n := 5) (As := [.ref A.1, .int (nI 13), .int y7, .int (nI 0), .int (nI 0)]) (st := [.int s0]) (fun w => w) (fun sz => mC_Lacks l hX.1 g cy tt sa sz A y7 (nI 0) (nI 0) hI (by omega)) (WR.full rfl) (fun w9 h9 => WR.full (WP_fst h9)) (goodIn_w gM_call) rfl rfl rfl (by decide +kernel) ⟨Nat.le_of_ble_eq_true rfl, Nat.le_of_ble_eq_true rfl⟩ rfl (Nat.le_of_ble_eq_true rfl) rfl ⟨by show _ + 1 ≤ 2251; omega, by show _ + 6 ≤ 13506; omega⟩ dL_holds_216 rfl (fun w9 h9 => ?_)
  obtain ⟨H1, hI2, rfl⟩ := h9
  refine v_eqw (ws' := WO cy A S H1) rfl ?_
  refine v_if_le hC (tgt := 226) dL_holds_219 (by decide) rfl (fun c => ?_) (fun c => ?_)
  · have h := ite_t c h
    refine v_iconst hC (v := (nI 0)) dL_holds_226 (by decide) rfl ?_
    exact bL_holds_227 hC hr hX hT9 _ n46 hk46 _ _ _ _ _ _ _ _ _ _ _ _ _ hI2 (by omega) (by omega) (by omega) h
  · have h := ite_f c h
    refine v_iconst hC (v := (nI 1)) dL_holds_222 (by decide) rfl ?_
    refine v_goto hC (tgt := 227) dL_holds_223 (by decide) ?_
    exact bL_holds_227 hC hr hX hT9 _ n46 hk46 _ _ _ _ _ _ _ _ _ _ _ _ _ hI2 (by omega) (by omega) (by omega) h
set_option maxHeartbeats 4000000 in
set_option maxRecDepth 100000 in
theorem bL_holds_109 {p : Program} {l : Launch} {e : Env} {s : State} {m : MethodId} {args : Array Value} {below : List Frame} {meth : Method} {c9 : Code} {g : va_G} {cy : Nat → ClassId} {tt sa : Nat → Nat} {A9 : Nat → Prop} (hC : CX p s m args meth c9 g cy 13 cL_holds wsM_holds RL) (hr : meth.sig.returnType = some .boolean) (hX : XL l s tt sa A9) {A : AA} {T : Nat} (hT9 : T < 8000) {S : SS} {res : Int32} : ∀ (kk46 : Int32 → Int32 → Int32 → Int32 → Int32 → Int32 → Int32 → Option (Int32)) (n46 : Nat) (hk46 : ∀ (y1 : Int32) (y2 : Int32) (y3 : Int32) (y4 : Int32) (y5 : Int32) (y6 : Int32) (y7 : Int32) (H : HH) (t cells slots : Nat), RP t S H → t + 0 ≤ T → cells + (281 + 123 * n46) ≤ 2251 → slots + 6 * (281 + 123 * n46) ≤ 13506 → kk46 y1 y2 y3 y4 y5 y6 y7 = some res → V p l e (headSpec wsM_holds rmL_holds).room s m args below meth c9 g 13 cells slots (MQ below (QE g A9 res (WP cy A T S)) args s 2251 13506 A9) A9 A9 (WO cy A S H) 46 [(0, .ref A.1), (1, .int y1), (2, .int y2), (3, .int y3), (4, .int y4), (5, .int y5), (6, .int y6), (7, .int y7)] []) (y1 : Int32) (y2 : Int32) (y3 : Int32) (y5 : Int32) (y7 : Int32) (y8 : Int32) (y9 : Int32) (y10 : Int32) (s0 : Int32) (s1 : Int32) (H : HH) (t cells slots : Nat) (hI : RP t S H) (ht : t + 0 ≤ T) (hc : cells + (351 + 123 * n46) ≤ 2251) (hs : slots + 6 * (351 + 123 * n46) ≤ 13506) (h : pL_holds_109 S.1 kk46 y1 y2 y3 y5 y7 y8 y9 y10 s0 s1 = some res), V p l e (headSpec wsM_holds rmL_holds).room s m args below meth c9 g 13 cells slots (MQ below (QE g A9 res (WP cy A T S)) args s 2251 13506 A9) A9 A9 (WO cy A S H) 109 [(0, .ref A.1), (1, .int y1), (2, .int y2), (3, .int y3), (5, .int y5), (7, .int y7), (8, .int y8), (9, .int y9), (10, .int y10)] [.int s0, .int s1] := by
  intro kk46 n46 hk46 y1 y2 y3 y5 y7 y8 y9 y10 s0 s1 H t cells slots hI ht hc hs h
  unfold pL_holds_109 at h
  refine v_iadd hC dL_holds_109 rfl ?_
  refine v_istore hC dL_holds_110 (by decide) [(4, .int (s1 + s0)), (0, .ref A.1), (1, .int y1), (2, .int y2), (3, .int y3), (5, .int y5), (7, .int y7), (8, .int y8), (9, .int y9), (10, .int y10)] rfl rfl ?_
  refine v_iload hC dL_holds_112 9 rfl rfl ?_
  refine v_if_eq hC (tgt := 185) dL_holds_114 (by decide) rfl (fun c => ?_) (fun c => ?_)
  · have h := ite_t c h
    refine v_iload hC dL_holds_185 7 rfl rfl ?_
    refine v_if_ne hC (tgt := 234) dL_holds_187 (by decide) rfl (fun c => ?_) (fun c => ?_)
    · have h := ite_f c h
      exact v_sub [1, 2, 3, 4, 0, 5, 6, 7] (lv' := [(0, .ref A.1), (1, .int y1), (2, .int y2), (3, .int y3), (4, .int (s1 + s0)), (5, .int y5), (7, .int y7), (8, .int y8)]) rfl (bL_holds_234 hC hr hX hT9 _ n46 hk46 _ _ _ _ _ _ _ _ _ _ _ hI (by omega) (by omega) (by omega) h)
    · have h := ite_t c h
      refine v_aload_n hC dL_holds_190 rfl 1 rfl rfl ?_
      refine v_bipush hC (v := (nI 11)) dL_holds_191 (by decide) rfl ?_
      refine v_iload hC dL_holds_193 6 rfl rfl ?_
      refine v_iconst hC (v := (nI 0)) dL_holds_195 (by decide) rfl ?_
      refine v_iconst hC (v := (nI 0)) dL_holds_196 (by decide) rfl ?_
      refine l_callF hC hX (n := 5) (As := [.ref A.1, .int (nI 11), .int y7, .int (nI 0), .int (nI 0)]) (st := []) (fun w => w) (fun sz => mC_Would l hX.1 g cy tt sa sz A y7 (nI 0) (nI 0) hI (by omega)) (WR.full rfl) (fun w9 h9 => WR.full (WP_fst h9)) (goodIn_w gM_call) rfl rfl rfl (by decide +kernel) ⟨Nat.le_of_ble_eq_true rfl, Nat.le_of_ble_eq_true rfl⟩ rfl (Nat.le_of_ble_eq_true rfl) rfl ⟨by show _ + 2 ≤ 2251; omega, by show _ + 12 ≤ 13506; omega⟩ dL_holds_197 rfl (fun w9 h9 => ?_)
      obtain ⟨H1, hI2, rfl⟩ := h9
      refine v_eqw (ws' := WO cy A S H1) rfl ?_
      refine v_iconst hC (v := (-1)) dL_holds_200 (by decide) rfl ?_
      refine v_icmp_ne hC (tgt := 208) dL_holds_201 (by decide) rfl (fun c => ?_) (fun c => ?_)
      · have h := ite_f c h
        refine v_iconst hC (v := (nI 0)) dL_holds_208 (by decide) rfl ?_
        exact v_sub [1, 2, 3, 4, 0, 5, 6, 7] (lv' := [(0, .ref A.1), (1, .int y1), (2, .int y2), (3, .int y3), (4, .int (s1 + s0)), (5, .int y5), (7, .int y7), (8, .int y8)]) rfl (bL_holds_209 hC hr hX hT9 _ n46 hk46 _ _ _ _ _ _ _ _ _ _ _ _ hI2 (by omega) (by omega) (by omega) h)
      · have h := ite_t c h
        refine v_iconst hC (v := (nI 1)) dL_holds_204 (by decide) rfl ?_
        refine v_goto hC (tgt := 209) dL_holds_205 (by decide) ?_
        exact v_sub [1, 2, 3, 4, 0, 5, 6, 7] (lv' := [(0, .ref A.1), (1, .int y1), (2, .int y2), (3, .int y3), (4, .int (s1 + s0)), (5, .int y5), (7, .int y7), (8, .int y8)]) rfl (bL_holds_209 hC hr hX hT9 _ n46 hk46 _ _ _ _ _ _ _ _ _ _ _ _ hI2 (by omega) (by omega) (by omega) h)
  · have h := ite_f c h
    refine v_iload hC dL_holds_117 7 rfl rfl ?_
    obtain ⟨v3, hv3, h⟩ := bind_g h
    refine l_callN hC (n := 1) (As := [.int y8]) (st := []) (mL_bits l g cy y8 hv3) (goodIn_w gM_bits) rfl rfl rfl (by decide +kernel) ⟨Nat.le_of_ble_eq_true rfl, Nat.le_of_ble_eq_true rfl⟩ rfl (Nat.le_of_ble_eq_true rfl) rfl ⟨by show _ + 0 ≤ 2251; omega, by show _ + 0 ≤ 13506; omega⟩ dL_holds_119 rfl ?_
    refine v_aload_n hC dL_holds_122 rfl 1 rfl rfl ?_
    refine v_iconst hC (v := (nI 4)) dL_holds_123 (by decide) rfl ?_
    refine v_iload hC dL_holds_124 6 rfl rfl ?_
    refine v_iconst hC (v := (nI 1)) dL_holds_126 (by decide) rfl ?_
    refine v_iconst hC (v := (nI 0)) dL_holds_127 (by decide) rfl ?_
    refine l_callF hC hX (n := 5) (As := [.ref A.1, .int (nI 4), .int y7, .int (nI 1), .int (nI 0)]) (st := [.int v3]) (fun w => w) (fun sz => mC_Scene l hX.1 g cy tt sa sz A y7 (nI 1) (nI 0) hI (by omega)) (WR.full rfl) (fun w9 h9 => WR.full (WP_fst h9)) (goodIn_w gM_call) rfl rfl rfl (by decide +kernel) ⟨Nat.le_of_ble_eq_true rfl, Nat.le_of_ble_eq_true rfl⟩ rfl (Nat.le_of_ble_eq_true rfl) rfl ⟨by show _ + 2 ≤ 2251; omega, by show _ + 12 ≤ 13506; omega⟩ dL_holds_128 rfl (fun w9 h9 => ?_)
    obtain ⟨H4, hI5, rfl⟩ := h9
    refine v_eqw (ws' := WO cy A S H4) rfl ?_
    refine v_icmp_ne hC (tgt := 181) dL_holds_131 (by decide) rfl (fun c => ?_) (fun c => ?_)
    · have h := ite_f c h
      exact v_sub [1, 2, 3, 4, 0, 5, 6, 7] (lv' := [(0, .ref A.1), (1, .int y1), (2, .int y2), (3, .int y3), (4, .int (s1 + s0)), (5, .int y5), (7, .int y7), (8, .int y8)]) rfl (bL_holds_181 hC hr hX hT9 _ n46 hk46 _ _ _ _ _ _ _ _ _ _ _ hI5 (by omega) (by omega) (by omega) h)
    · have h := ite_t c h
      refine v_iload hC dL_holds_134 8 rfl rfl ?_
      obtain ⟨v6, hv6, h⟩ := bind_g h
      refine l_callN hC (n := 1) (As := [.int y9]) (st := []) (mL_bits l g cy y9 hv6) (goodIn_w gM_bits) rfl rfl rfl (by decide +kernel) ⟨Nat.le_of_ble_eq_true rfl, Nat.le_of_ble_eq_true rfl⟩ rfl (Nat.le_of_ble_eq_true rfl) rfl ⟨by show _ + 0 ≤ 2251; omega, by show _ + 0 ≤ 13506; omega⟩ dL_holds_136 rfl ?_
      refine v_iload hC dL_holds_139 7 rfl rfl ?_
      obtain ⟨v7, hv7, h⟩ := bind_g h
      refine l_callN hC (n := 1) (As := [.int y8]) (st := [.int v6]) (mL_bits l g cy y8 hv7) (goodIn_w gM_bits) rfl rfl rfl (by decide +kernel) ⟨Nat.le_of_ble_eq_true rfl, Nat.le_of_ble_eq_true rfl⟩ rfl (Nat.le_of_ble_eq_true rfl) rfl ⟨by show _ + 0 ≤ 2251; omega, by show _ + 0 ≤ 13506; omega⟩ dL_holds_141 rfl ?_
      refine v_icmp_ne hC (tgt := 181) dL_holds_144 (by decide) rfl (fun c => ?_) (fun c => ?_)
      · have h := ite_f c h
        exact v_sub [1, 2, 3, 4, 0, 5, 6, 7] (lv' := [(0, .ref A.1), (1, .int y1), (2, .int y2), (3, .int y3), (4, .int (s1 + s0)), (5, .int y5), (7, .int y7), (8, .int y8)]) rfl (bL_holds_181 hC hr hX hT9 _ n46 hk46 _ _ _ _ _ _ _ _ _ _ _ hI5 (by omega) (by omega) (by omega) h)
      · have h := ite_t c h
        refine v_iload hC dL_holds_147 8 rfl rfl ?_
        refine v_aload_n hC dL_holds_149 rfl 1 rfl rfl ?_
        refine v_iconst hC (v := (nI 4)) dL_holds_150 (by decide) rfl ?_
        refine v_iload hC dL_holds_151 6 rfl rfl ?_
        refine v_bipush hC (v := (nI 8)) dL_holds_153 (by decide) rfl ?_
        refine v_iconst hC (v := (nI 0)) dL_holds_155 (by decide) rfl ?_
        refine l_callF hC hX (n := 5) (As := [.ref A.1, .int (nI 4), .int y7, .int (nI 8), .int (nI 0)]) (st := [.int y9]) (fun w => w) (fun sz => mC_Scene l hX.1 g cy tt sa sz A y7 (nI 8) (nI 0) hI5 (by omega)) (WR.full rfl) (fun w9 h9 => WR.full (WP_fst h9)) (goodIn_w gM_call) rfl rfl rfl (by decide +kernel) ⟨Nat.le_of_ble_eq_true rfl, Nat.le_of_ble_eq_true rfl⟩ rfl (Nat.le_of_ble_eq_true rfl) rfl ⟨by show _ + 2 ≤ 2251; omega, by show _ + 12 ≤ 13506; omega⟩ dL_holds_156 rfl (fun w9 h9 => ?_)
        obtain ⟨H8, hI9, rfl⟩ := h9
        refine v_eqw (ws' := WO cy A S H8) rfl ?_
        refine v_iand hC dL_holds_159 rfl ?_
        refine v_if_ne hC (tgt := 181) dL_holds_160 (by decide) rfl (fun c => ?_) (fun c => ?_)
        · have h := ite_f c h
          exact v_sub [1, 2, 3, 4, 0, 5, 6, 7] (lv' := [(0, .ref A.1), (1, .int y1), (2, .int y2), (3, .int y3), (4, .int (s1 + s0)), (5, .int y5), (7, .int y7), (8, .int y8)]) rfl (bL_holds_181 hC hr hX hT9 _ n46 hk46 _ _ _ _ _ _ _ _ _ _ _ hI9 (by omega) (by omega) (by omega) h)
        · have h := ite_t c h
          refine v_aload_n hC dL_holds_163 rfl 1 rfl rfl ?_
          refine v_bipush hC (v := (nI 11)) dL_holds_164 (by decide) rfl ?_
          refine v_iload hC dL_holds_166 6 rfl rfl ?_
          refine v_iconst hC (v := (nI 0)) dL_holds_168 (by decide) rfl ?_
          refine v_iconst hC (v := (nI 0)) dL_holds_169 (by decide) rfl ?_
          refine l_callF hC hX (n := 5) (As := [.ref A.1, .int (nI 11), .int y7, .int (nI 0), .int (nI 0)]) (st := []) (fun w => w) (fun sz => mC_Would l hX.1 g cy tt sa sz A y7 (nI 0) (nI 0) hI9 (by omega)) (WR.full rfl) (fun w9 h9 => WR.full (WP_fst h9)) (goodIn_w gM_call) rfl rfl rfl (by decide +kernel) ⟨Nat.le_of_ble_eq_true rfl, Nat.le_of_ble_eq_true rfl⟩ rfl (Nat.le_of_ble_eq_true rfl) rfl ⟨by show _ + 2 ≤ 2251; omega, by show _ + 12 ≤ 13506; omega⟩ dL_holds_170 rfl (fun w9 h9 => ?_)
          obtain ⟨H10, hI11, rfl⟩ := h9
          refine v_eqw (ws' := WO cy A S H10) rfl ?_
          refine v_iconst hC (v := (-1)) dL_holds_173 (by decide) rfl ?_
          refine v_icmp_ne hC (tgt := 181) dL_holds_174 (by decide) rfl (fun c => ?_) (fun c => ?_)
          · have h := ite_f c h
            exact v_sub [1, 2, 3, 4, 0, 5, 6, 7] (lv' := [(0, .ref A.1), (1, .int y1), (2, .int y2), (3, .int y3), (4, .int (s1 + s0)), (5, .int y5), (7, .int y7), (8, .int y8)]) rfl (bL_holds_181 hC hr hX hT9 _ n46 hk46 _ _ _ _ _ _ _ _ _ _ _ hI11 (by omega) (by omega) (by omega) h)
          · have h := ite_t c h
            refine v_iconst hC (v := (nI 1)) dL_holds_177 (by decide) rfl ?_
            refine v_goto hC (tgt := 235) dL_holds_178 (by decide) ?_
            exact v_sub [1, 2, 3, 4, 0, 5, 6, 7] (lv' := [(0, .ref A.1), (1, .int y1), (2, .int y2), (3, .int y3), (4, .int (s1 + s0)), (5, .int y5), (7, .int y7), (8, .int y8)]) rfl (bL_holds_235 hC hr hX hT9 _ n46 hk46 _ _ _ _ _ _ _ _ _ _ _ _ hI11 (by omega) (by omega) (by omega) h)
set_option maxHeartbeats 4000000 in
set_option maxRecDepth 100000 in
theorem bL_holds_95 {p : Program} {l : Launch} {e : Env} {s : State} {m : MethodId} {args : Array Value} {below : List Frame} {meth : Method} {c9 : Code} {g : va_G} {cy : Nat → ClassId} {tt sa : Nat → Nat} {A9 : Nat → Prop} (hC : CX p s m args meth c9 g cy 13 cL_holds wsM_holds RL) (hr : meth.sig.returnType = some .boolean) (hX : XL l s tt sa A9) {A : AA} {T : Nat} (hT9 : T < 8000) {S : SS} {res : Int32} : ∀ (kk46 : Int32 → Int32 → Int32 → Int32 → Int32 → Int32 → Int32 → Option (Int32)) (n46 : Nat) (hk46 : ∀ (y1 : Int32) (y2 : Int32) (y3 : Int32) (y4 : Int32) (y5 : Int32) (y6 : Int32) (y7 : Int32) (H : HH) (t cells slots : Nat), RP t S H → t + 0 ≤ T → cells + (281 + 123 * n46) ≤ 2251 → slots + 6 * (281 + 123 * n46) ≤ 13506 → kk46 y1 y2 y3 y4 y5 y6 y7 = some res → V p l e (headSpec wsM_holds rmL_holds).room s m args below meth c9 g 13 cells slots (MQ below (QE g A9 res (WP cy A T S)) args s 2251 13506 A9) A9 A9 (WO cy A S H) 46 [(0, .ref A.1), (1, .int y1), (2, .int y2), (3, .int y3), (4, .int y4), (5, .int y5), (6, .int y6), (7, .int y7)] []) (y1 : Int32) (y2 : Int32) (y3 : Int32) (y4 : Int32) (y5 : Int32) (y7 : Int32) (y8 : Int32) (y9 : Int32) (s0 : Int32) (H : HH) (t cells slots : Nat) (hI : RP t S H) (ht : t + 0 ≤ T) (hc : cells + (351 + 123 * n46) ≤ 2251) (hs : slots + 6 * (351 + 123 * n46) ≤ 13506) (h : pL_holds_95 S.1 kk46 y1 y2 y3 y4 y5 y7 y8 y9 s0 = some res), V p l e (headSpec wsM_holds rmL_holds).room s m args below meth c9 g 13 cells slots (MQ below (QE g A9 res (WP cy A T S)) args s 2251 13506 A9) A9 A9 (WO cy A S H) 95 [(0, .ref A.1), (1, .int y1), (2, .int y2), (3, .int y3), (4, .int y4), (5, .int y5), (7, .int y7), (8, .int y8), (9, .int y9)] [.int s0] := by
  intro kk46 n46 hk46 y1 y2 y3 y4 y5 y7 y8 y9 s0 H t cells slots hI ht hc hs h
  unfold pL_holds_95 at h
  refine v_istore hC dL_holds_95 (by decide) [(10, .int s0), (0, .ref A.1), (1, .int y1), (2, .int y2), (3, .int y3), (4, .int y4), (5, .int y5), (7, .int y7), (8, .int y8), (9, .int y9)] rfl rfl ?_
  refine v_iload hC dL_holds_97 5 rfl rfl ?_
  refine v_iload hC dL_holds_99 0 rfl rfl ?_
  refine v_if_eq hC (tgt := 108) dL_holds_101 (by decide) rfl (fun c => ?_) (fun c => ?_)
  · have h := ite_t c h
    refine v_iconst hC (v := (nI 0)) dL_holds_108 (by decide) rfl ?_
    exact v_sub [1, 2, 3, 4, 6, 7, 8, 9, 0] (lv' := [(0, .ref A.1), (1, .int y1), (2, .int y2), (3, .int y3), (5, .int y5), (7, .int y7), (8, .int y8), (9, .int y9), (10, .int s0)]) rfl (bL_holds_109 hC hr hX hT9 _ n46 hk46 _ _ _ _ _ _ _ _ _ _ _ _ _ _ hI (by omega) (by omega) (by omega) h)
  · have h := ite_f c h
    refine v_iconst hC (v := (nI 1)) dL_holds_104 (by decide) rfl ?_
    refine v_goto hC (tgt := 109) dL_holds_105 (by decide) ?_
    exact v_sub [1, 2, 3, 4, 6, 7, 8, 9, 0] (lv' := [(0, .ref A.1), (1, .int y1), (2, .int y2), (3, .int y3), (5, .int y5), (7, .int y7), (8, .int y8), (9, .int y9), (10, .int s0)]) rfl (bL_holds_109 hC hr hX hT9 _ n46 hk46 _ _ _ _ _ _ _ _ _ _ _ _ _ _ hI (by omega) (by omega) (by omega) h)
set_option maxHeartbeats 4000000 in
set_option maxRecDepth 100000 in
theorem bL_holds_371 {p : Program} {l : Launch} {e : Env} {s : State} {m : MethodId} {args : Array Value} {below : List Frame} {meth : Method} {c9 : Code} {g : va_G} {cy : Nat → ClassId} {tt sa : Nat → Nat} {A9 : Nat → Prop} (hC : CX p s m args meth c9 g cy 13 cL_holds wsM_holds RL) (hr : meth.sig.returnType = some .boolean) (hX : XL l s tt sa A9) {A : AA} {T : Nat} (hT9 : T < 8000) {S : SS} {res : Int32} : ∀ (kk304 : Int32 → Int32 → Int32 → Int32 → Int32 → Int32 → Int32 → Option (Int32)) (n304 : Nat) (hk304 : ∀ (y1 : Int32) (y2 : Int32) (y3 : Int32) (y4 : Int32) (y5 : Int32) (y6 : Int32) (y7 : Int32) (H : HH) (t cells slots : Nat), RP t S H → t + 0 ≤ T → cells + (153 + 8 * n304) ≤ 2251 → slots + 6 * (153 + 8 * n304) ≤ 13506 → kk304 y1 y2 y3 y4 y5 y6 y7 = some res → V p l e (headSpec wsM_holds rmL_holds).room s m args below meth c9 g 13 cells slots (MQ below (QE g A9 res (WP cy A T S)) args s 2251 13506 A9) A9 A9 (WO cy A S H) 304 [(0, .ref A.1), (1, .int y1), (2, .int y2), (3, .int y3), (4, .int y4), (5, .int y5), (6, .int y6), (7, .int y7)] []) (y1 : Int32) (y2 : Int32) (y3 : Int32) (y4 : Int32) (y5 : Int32) (y7 : Int32) (s0 : Int32) (H : HH) (t cells slots : Nat) (hI : RP t S H) (ht : t + 0 ≤ T) (hc : cells + (153 + 8 * n304) ≤ 2251) (hs : slots + 6 * (153 + 8 * n304) ≤ 13506) (h : pL_holds_371 S.1 kk304 y1 y2 y3 y4 y5 y7 s0 = some res), V p l e (headSpec wsM_holds rmL_holds).room s m args below meth c9 g 13 cells slots (MQ below (QE g A9 res (WP cy A T S)) args s 2251 13506 A9) A9 A9 (WO cy A S H) 371 [(0, .ref A.1), (1, .int y1), (2, .int y2), (3, .int y3), (4, .int y4), (5, .int y5), (7, .int y7)] [.int s0] := by
  intro kk304 n304 hk304 y1 y2 y3 y4 y5 y7 s0 H t cells slots hI ht hc hs h
  unfold pL_holds_371 at h
  refine v_istore hC dL_holds_371 (by decide) [(6, .int s0), (0, .ref A.1), (1, .int y1), (2, .int y2), (3, .int y3), (4, .int y4), (5, .int y5), (7, .int y7)] rfl rfl ?_
  refine v_iinc hC dL_holds_373 7 rfl (v := (y7 + (nI 1))) rfl (by decide) [(7, .int (y7 + (nI 1))), (6, .int s0), (0, .ref A.1), (1, .int y1), (2, .int y2), (3, .int y3), (4, .int y4), (5, .int y5)] rfl rfl ?_
  refine v_goto hC (tgt := 304) dL_holds_376 (by decide) ?_
  exact v_sub [2, 3, 4, 5, 6, 7, 1, 0] (lv' := [(0, .ref A.1), (1, .int y1), (2, .int y2), (3, .int y3), (4, .int y4), (5, .int y5), (6, .int s0), (7, .int (y7 + (nI 1)))]) rfl (hk304 _ _ _ _ _ _ _ _ _ _ _ hI (by omega) (by omega) (by omega) h)
set_option maxHeartbeats 4000000 in
set_option maxRecDepth 100000 in
theorem bL_holds_370 {p : Program} {l : Launch} {e : Env} {s : State} {m : MethodId} {args : Array Value} {below : List Frame} {meth : Method} {c9 : Code} {g : va_G} {cy : Nat → ClassId} {tt sa : Nat → Nat} {A9 : Nat → Prop} (hC : CX p s m args meth c9 g cy 13 cL_holds wsM_holds RL) (hr : meth.sig.returnType = some .boolean) (hX : XL l s tt sa A9) {A : AA} {T : Nat} (hT9 : T < 8000) {S : SS} {res : Int32} : ∀ (kk304 : Int32 → Int32 → Int32 → Int32 → Int32 → Int32 → Int32 → Option (Int32)) (n304 : Nat) (hk304 : ∀ (y1 : Int32) (y2 : Int32) (y3 : Int32) (y4 : Int32) (y5 : Int32) (y6 : Int32) (y7 : Int32) (H : HH) (t cells slots : Nat), RP t S H → t + 0 ≤ T → cells + (153 + 8 * n304) ≤ 2251 → slots + 6 * (153 + 8 * n304) ≤ 13506 → kk304 y1 y2 y3 y4 y5 y6 y7 = some res → V p l e (headSpec wsM_holds rmL_holds).room s m args below meth c9 g 13 cells slots (MQ below (QE g A9 res (WP cy A T S)) args s 2251 13506 A9) A9 A9 (WO cy A S H) 304 [(0, .ref A.1), (1, .int y1), (2, .int y2), (3, .int y3), (4, .int y4), (5, .int y5), (6, .int y6), (7, .int y7)] []) (y1 : Int32) (y2 : Int32) (y3 : Int32) (y4 : Int32) (y5 : Int32) (y7 : Int32) (H : HH) (t cells slots : Nat) (hI : RP t S H) (ht : t + 0 ≤ T) (hc : cells + (153 + 8 * n304) ≤ 2251) (hs : slots + 6 * (153 + 8 * n304) ≤ 13506) (h : pL_holds_370 S.1 kk304 y1 y2 y3 y4 y5 y7 = some res), V p l e (headSpec wsM_holds rmL_holds).room s m args below meth c9 g 13 cells slots (MQ below (QE g A9 res (WP cy A T S)) args s 2251 13506 A9) A9 A9 (WO cy A S H) 370 [(0, .ref A.1), (1, .int y1), (2, .int y2), (3, .int y3), (4, .int y4), (5, .int y5), (7, .int y7)] [] := by
  intro kk304 n304 hk304 y1 y2 y3 y4 y5 y7 H t cells slots hI ht hc hs h
  unfold pL_holds_370 at h
  refine v_iconst hC (v := (nI 0)) dL_holds_370 (by decide) rfl ?_
  exact bL_holds_371 hC hr hX hT9 _ n304 hk304 _ _ _ _ _ _ _ _ _ _ _ hI (by omega) (by omega) (by omega) h
set_option maxHeartbeats 4000000 in
set_option maxRecDepth 100000 in
theorem bL_holds_475 {p : Program} {l : Launch} {e : Env} {s : State} {m : MethodId} {args : Array Value} {below : List Frame} {meth : Method} {c9 : Code} {g : va_G} {cy : Nat → ClassId} {tt sa : Nat → Nat} {A9 : Nat → Prop} (hC : CX p s m args meth c9 g cy 13 cL_holds wsM_holds RL) (hr : meth.sig.returnType = some .boolean) (hX : XL l s tt sa A9) {A : AA} {T : Nat} (hT9 : T < 8000) {S : SS} {res : Int32} : ∀ (kk399 : Int32 → Int32 → Int32 → Int32 → Int32 → Int32 → Int32 → Option (Int32)) (n399 : Nat) (hk399 : ∀ (y2 : Int32) (y4 : Int32) (y5 : Int32) (y6 : Int32) (y7 : Int32) (y8 : Int32) (y9 : Int32) (H : HH) (t cells slots : Nat), RP t S H → t + 0 ≤ T → cells + (119 + 2 * n399) ≤ 2251 → slots + 6 * (119 + 2 * n399) ≤ 13506 → kk399 y2 y4 y5 y6 y7 y8 y9 = some res → V p l e (headSpec wsM_holds rmL_holds).room s m args below meth c9 g 13 cells slots (MQ below (QE g A9 res (WP cy A T S)) args s 2251 13506 A9) A9 A9 (WO cy A S H) 399 [(0, .ref A.1), (2, .int y2), (4, .int y4), (5, .int y5), (6, .int y6), (7, .int y7), (8, .int y8), (9, .int y9)] []) (y2 : Int32) (y4 : Int32) (y5 : Int32) (y7 : Int32) (y8 : Int32) (y9 : Int32) (s0 : Int32) (H : HH) (t cells slots : Nat) (hI : RP t S H) (ht : t + 0 ≤ T) (hc : cells + (119 + 2 * n399) ≤ 2251) (hs : slots + 6 * (119 + 2 * n399) ≤ 13506) (h : pL_holds_475 S.1 kk399 y2 y4 y5 y7 y8 y9 s0 = some res), V p l e (headSpec wsM_holds rmL_holds).room s m args below meth c9 g 13 cells slots (MQ below (QE g A9 res (WP cy A T S)) args s 2251 13506 A9) A9 A9 (WO cy A S H) 475 [(0, .ref A.1), (2, .int y2), (4, .int y4), (5, .int y5), (7, .int y7), (8, .int y8), (9, .int y9)] [.int s0] := by
  intro kk399 n399 hk399 y2 y4 y5 y7 y8 y9 s0 H t cells slots hI ht hc hs h
  unfold pL_holds_475 at h
  refine v_istore hC dL_holds_475 (by decide) [(6, .int s0), (0, .ref A.1), (2, .int y2), (4, .int y4), (5, .int y5), (7, .int y7), (8, .int y8), (9, .int y9)] rfl rfl ?_
  refine v_iinc hC dL_holds_477 7 rfl (v := (y9 + (nI 1))) rfl (by decide) [(9, .int (y9 + (nI 1))), (6, .int s0), (0, .ref A.1), (2, .int y2), (4, .int y4), (5, .int y5), (7, .int y7), (8, .int y8)] rfl rfl ?_
  refine v_goto hC (tgt := 399) dL_holds_480 (by decide) ?_
  exact v_sub [2, 3, 4, 5, 1, 6, 7, 0] (lv' := [(0, .ref A.1), (2, .int y2), (4, .int y4), (5, .int y5), (6, .int s0), (7, .int y7), (8, .int y8), (9, .int (y9 + (nI 1)))]) rfl (hk399 _ _ _ _ _ _ _ _ _ _ _ hI (by omega) (by omega) (by omega) h)
set_option maxHeartbeats 4000000 in
set_option maxRecDepth 100000 in
theorem bL_holds_470 {p : Program} {l : Launch} {e : Env} {s : State} {m : MethodId} {args : Array Value} {below : List Frame} {meth : Method} {c9 : Code} {g : va_G} {cy : Nat → ClassId} {tt sa : Nat → Nat} {A9 : Nat → Prop} (hC : CX p s m args meth c9 g cy 13 cL_holds wsM_holds RL) (hr : meth.sig.returnType = some .boolean) (hX : XL l s tt sa A9) {A : AA} {T : Nat} (hT9 : T < 8000) {S : SS} {res : Int32} : ∀ (kk399 : Int32 → Int32 → Int32 → Int32 → Int32 → Int32 → Int32 → Option (Int32)) (n399 : Nat) (hk399 : ∀ (y2 : Int32) (y4 : Int32) (y5 : Int32) (y6 : Int32) (y7 : Int32) (y8 : Int32) (y9 : Int32) (H : HH) (t cells slots : Nat), RP t S H → t + 0 ≤ T → cells + (119 + 2 * n399) ≤ 2251 → slots + 6 * (119 + 2 * n399) ≤ 13506 → kk399 y2 y4 y5 y6 y7 y8 y9 = some res → V p l e (headSpec wsM_holds rmL_holds).room s m args below meth c9 g 13 cells slots (MQ below (QE g A9 res (WP cy A T S)) args s 2251 13506 A9) A9 A9 (WO cy A S H) 399 [(0, .ref A.1), (2, .int y2), (4, .int y4), (5, .int y5), (6, .int y6), (7, .int y7), (8, .int y8), (9, .int y9)] []) (y2 : Int32) (y4 : Int32) (y5 : Int32) (y7 : Int32) (y8 : Int32) (y9 : Int32) (H : HH) (t cells slots : Nat) (hI : RP t S H) (ht : t + 0 ≤ T) (hc : cells + (119 + 2 * n399) ≤ 2251) (hs : slots + 6 * (119 + 2 * n399) ≤ 13506) (h : pL_holds_470 S.1 kk399 y2 y4 y5 y7 y8 y9 = some res), V p l e (headSpec wsM_holds rmL_holds).room s m args below meth c9 g 13 cells slots (MQ below (QE g A9 res (WP cy A T S)) args s 2251 13506 A9) A9 A9 (WO cy A S H) 470 [(0, .ref A.1), (2, .int y2), (4, .int y4), (5, .int y5), (7, .int y7), (8, .int y8), (9, .int y9)] [] := by
  intro kk399 n399 hk399 y2 y4 y5 y7 y8 y9 H t cells slots hI ht hc hs h
  unfold pL_holds_470 at h
  refine v_iconst hC (v := (nI 1)) dL_holds_470 (by decide) rfl ?_
  refine v_goto hC (tgt := 475) dL_holds_471 (by decide) ?_
  exact bL_holds_475 hC hr hX hT9 _ n399 hk399 _ _ _ _ _ _ _ _ _ _ _ hI (by omega) (by omega) (by omega) h
set_option maxHeartbeats 4000000 in
set_option maxRecDepth 100000 in
theorem bL_holds_474 {p : Program} {l : Launch} {e : Env} {s : State} {m : MethodId} {args : Array Value} {below : List Frame} {meth : Method} {c9 : Code} {g : va_G} {cy : Nat → ClassId} {tt sa : Nat → Nat} {A9 : Nat → Prop} (hC : CX p s m args meth c9 g cy 13 cL_holds wsM_holds RL) (hr : meth.sig.returnType = some .boolean) (hX : XL l s tt sa A9) {A : AA} {T : Nat} (hT9 : T < 8000) {S : SS} {res : Int32} : ∀ (kk399 : Int32 → Int32 → Int32 → Int32 → Int32 → Int32 → Int32 → Option (Int32)) (n399 : Nat) (hk399 : ∀ (y2 : Int32) (y4 : Int32) (y5 : Int32) (y6 : Int32) (y7 : Int32) (y8 : Int32) (y9 : Int32) (H : HH) (t cells slots : Nat), RP t S H → t + 0 ≤ T → cells + (119 + 2 * n399) ≤ 2251 → slots + 6 * (119 + 2 * n399) ≤ 13506 → kk399 y2 y4 y5 y6 y7 y8 y9 = some res → V p l e (headSpec wsM_holds rmL_holds).room s m args below meth c9 g 13 cells slots (MQ below (QE g A9 res (WP cy A T S)) args s 2251 13506 A9) A9 A9 (WO cy A S H) 399 [(0, .ref A.1), (2, .int y2), (4, .int y4), (5, .int y5), (6, .int y6), (7, .int y7), (8, .int y8), (9, .int y9)] []) (y2 : Int32) (y4 : Int32) (y5 : Int32) (y7 : Int32) (y8 : Int32) (y9 : Int32) (H : HH) (t cells slots : Nat) (hI : RP t S H) (ht : t + 0 ≤ T) (hc : cells + (119 + 2 * n399) ≤ 2251) (hs : slots + 6 * (119 + 2 * n399) ≤ 13506) (h : pL_holds_474 S.1 kk399 y2 y4 y5 y7 y8 y9 = some res), V p l e (headSpec wsM_holds rmL_holds).room s m args below meth c9 g 13 cells slots (MQ below (QE g A9 res (WP cy A T S)) args s 2251 13506 A9) A9 A9 (WO cy A S H) 474 [(0, .ref A.1), (2, .int y2), (4, .int y4), (5, .int y5), (7, .int y7), (8, .int y8), (9, .int y9)] [] := by
  intro kk399 n399 hk399 y2 y4 y5 y7 y8 y9 H t cells slots hI ht hc hs h
  unfold pL_holds_474 at h
  refine v_iconst hC (v := (nI 0)) dL_holds_474 (by decide) rfl ?_
  exact bL_holds_475 hC hr hX hT9 _ n399 hk399 _ _ _ _ _ _ _ _ _ _ _ hI (by omega) (by omega) (by omega) h
set_option maxHeartbeats 4000000 in
set_option maxRecDepth 100000 in
theorem bL_holds_455 {p : Program} {l : Launch} {e : Env} {s : State} {m : MethodId} {args : Array Value} {below : List Frame} {meth : Method} {c9 : Code} {g : va_G} {cy : Nat → ClassId} {tt sa : Nat → Nat} {A9 : Nat → Prop} (hC : CX p s m args meth c9 g cy 13 cL_holds wsM_holds RL) (hr : meth.sig.returnType = some .boolean) (hX : XL l s tt sa A9) {A : AA} {T : Nat} (hT9 : T < 8000) {S : SS} {res : Int32} : ∀ (kk399 : Int32 → Int32 → Int32 → Int32 → Int32 → Int32 → Int32 → Option (Int32)) (n399 : Nat) (hk399 : ∀ (y2 : Int32) (y4 : Int32) (y5 : Int32) (y6 : Int32) (y7 : Int32) (y8 : Int32) (y9 : Int32) (H : HH) (t cells slots : Nat), RP t S H → t + 0 ≤ T → cells + (119 + 2 * n399) ≤ 2251 → slots + 6 * (119 + 2 * n399) ≤ 13506 → kk399 y2 y4 y5 y6 y7 y8 y9 = some res → V p l e (headSpec wsM_holds rmL_holds).room s m args below meth c9 g 13 cells slots (MQ below (QE g A9 res (WP cy A T S)) args s 2251 13506 A9) A9 A9 (WO cy A S H) 399 [(0, .ref A.1), (2, .int y2), (4, .int y4), (5, .int y5), (6, .int y6), (7, .int y7), (8, .int y8), (9, .int y9)] []) (y2 : Int32) (y4 : Int32) (y5 : Int32) (y7 : Int32) (y8 : Int32) (y9 : Int32) (y10 : Int32) (s0 : Int32) (s1 : Int32) (H : HH) (t cells slots : Nat) (hI : RP t S H) (ht : t + 0 ≤ T) (hc : cells + (119 + 2 * n399) ≤ 2251) (hs : slots + 6 * (119 + 2 * n399) ≤ 13506) (h : pL_holds_455 S.1 kk399 y2 y4 y5 y7 y8 y9 y10 s0 s1 = some res), V p l e (headSpec wsM_holds rmL_holds).room s m args below meth c9 g 13 cells slots (MQ below (QE g A9 res (WP cy A T S)) args s 2251 13506 A9) A9 A9 (WO cy A S H) 455 [(0, .ref A.1), (2, .int y2), (4, .int y4), (5, .int y5), (7, .int y7), (8, .int y8), (9, .int y9), (10, .int y10)] [.int s0, .int s1] := by
  intro kk399 n399 hk399 y2 y4 y5 y7 y8 y9 y10 s0 s1 H t cells slots hI ht hc hs h
  unfold pL_holds_455 at h
  refine v_icmp_ne hC (tgt := 474) dL_holds_455 (by decide) rfl (fun c => ?_) (fun c => ?_)
  · have h := ite_f c h
    exact v_sub [0, 1, 2, 3, 4, 5, 6] (lv' := [(0, .ref A.1), (2, .int y2), (4, .int y4), (5, .int y5), (7, .int y7), (8, .int y8), (9, .int y9)]) rfl (bL_holds_474 hC hr hX hT9 _ n399 hk399 _ _ _ _ _ _ _ _ _ _ hI (by omega) (by omega) (by omega) h)
  · have h := ite_t c h
    refine v_iload hC dL_holds_458 7 rfl rfl ?_
    refine v_iconst hC (v := (nI 5)) dL_holds_460 (by decide) rfl ?_
    refine v_icmp_lt hC (tgt := 470) dL_holds_461 (by decide) rfl (fun c => ?_) (fun c => ?_)
    · have h := ite_t c h
      exact v_sub [0, 1, 2, 3, 4, 5, 6] (lv' := [(0, .ref A.1), (2, .int y2), (4, .int y4), (5, .int y5), (7, .int y7), (8, .int y8), (9, .int y9)]) rfl (bL_holds_470 hC hr hX hT9 _ n399 hk399 _ _ _ _ _ _ _ _ _ _ hI (by omega) (by omega) (by omega) h)
    · have h := ite_f c h
      refine v_iload hC dL_holds_464 5 rfl rfl ?_
      refine v_iconst hC (v := (-1)) dL_holds_466 (by decide) rfl ?_
      refine v_icmp_eq hC (tgt := 474) dL_holds_467 (by decide) rfl (fun c => ?_) (fun c => ?_)
      · have h := ite_t c h
        exact v_sub [0, 1, 2, 3, 4, 5, 6] (lv' := [(0, .ref A.1), (2, .int y2), (4, .int y4), (5, .int y5), (7, .int y7), (8, .int y8), (9, .int y9)]) rfl (bL_holds_474 hC hr hX hT9 _ n399 hk399 _ _ _ _ _ _ _ _ _ _ hI (by omega) (by omega) (by omega) h)
      · have h := ite_f c h
        exact v_sub [0, 1, 2, 3, 4, 5, 6] (lv' := [(0, .ref A.1), (2, .int y2), (4, .int y4), (5, .int y5), (7, .int y7), (8, .int y8), (9, .int y9)]) rfl (bL_holds_470 hC hr hX hT9 _ n399 hk399 _ _ _ _ _ _ _ _ _ _ hI (by omega) (by omega) (by omega) h)
set_option maxHeartbeats 4000000 in
set_option maxRecDepth 100000 in
theorem bL_holds_454 {p : Program} {l : Launch} {e : Env} {s : State} {m : MethodId} {args : Array Value} {below : List Frame} {meth : Method} {c9 : Code} {g : va_G} {cy : Nat → ClassId} {tt sa : Nat → Nat} {A9 : Nat → Prop} (hC : CX p s m args meth c9 g cy 13 cL_holds wsM_holds RL) (hr : meth.sig.returnType = some .boolean) (hX : XL l s tt sa A9) {A : AA} {T : Nat} (hT9 : T < 8000) {S : SS} {res : Int32} : ∀ (kk399 : Int32 → Int32 → Int32 → Int32 → Int32 → Int32 → Int32 → Option (Int32)) (n399 : Nat) (hk399 : ∀ (y2 : Int32) (y4 : Int32) (y5 : Int32) (y6 : Int32) (y7 : Int32) (y8 : Int32) (y9 : Int32) (H : HH) (t cells slots : Nat), RP t S H → t + 0 ≤ T → cells + (119 + 2 * n399) ≤ 2251 → slots + 6 * (119 + 2 * n399) ≤ 13506 → kk399 y2 y4 y5 y6 y7 y8 y9 = some res → V p l e (headSpec wsM_holds rmL_holds).room s m args below meth c9 g 13 cells slots (MQ below (QE g A9 res (WP cy A T S)) args s 2251 13506 A9) A9 A9 (WO cy A S H) 399 [(0, .ref A.1), (2, .int y2), (4, .int y4), (5, .int y5), (6, .int y6), (7, .int y7), (8, .int y8), (9, .int y9)] []) (y2 : Int32) (y4 : Int32) (y5 : Int32) (y7 : Int32) (y8 : Int32) (y9 : Int32) (y10 : Int32) (s0 : Int32) (H : HH) (t cells slots : Nat) (hI : RP t S H) (ht : t + 0 ≤ T) (hc : cells + (119 + 2 * n399) ≤ 2251) (hs : slots + 6 * (119 + 2 * n399) ≤ 13506) (h : pL_holds_454 S.1 kk399 y2 y4 y5 y7 y8 y9 y10 s0 = some res), V p l e (headSpec wsM_holds rmL_holds).room s m args below meth c9 g 13 cells slots (MQ below (QE g A9 res (WP cy A T S)) args s 2251 13506 A9) A9 A9 (WO cy A S H) 454 [(0, .ref A.1), (2, .int y2), (4, .int y4), (5, .int y5), (7, .int y7), (8, .int y8), (9, .int y9), (10, .int y10)] [.int s0] := by
  intro kk399 n399 hk399 y2 y4 y5 y7 y8 y9 y10 s0 H t cells slots hI ht hc hs h
  unfold pL_holds_454 at h
  refine v_iconst hC (v := (nI 0)) dL_holds_454 (by decide) rfl ?_
  exact bL_holds_455 hC hr hX hT9 _ n399 hk399 _ _ _ _ _ _ _ _ _ _ _ _ _ hI (by omega) (by omega) (by omega) h
set_option maxHeartbeats 4000000 in
set_option maxRecDepth 100000 in
theorem bL_holds_433 {p : Program} {l : Launch} {e : Env} {s : State} {m : MethodId} {args : Array Value} {below : List Frame} {meth : Method} {c9 : Code} {g : va_G} {cy : Nat → ClassId} {tt sa : Nat → Nat} {A9 : Nat → Prop} (hC : CX p s m args meth c9 g cy 13 cL_holds wsM_holds RL) (hr : meth.sig.returnType = some .boolean) (hX : XL l s tt sa A9) {A : AA} {T : Nat} (hT9 : T < 8000) {S : SS} {res : Int32} : ∀ (kk399 : Int32 → Int32 → Int32 → Int32 → Int32 → Int32 → Int32 → Option (Int32)) (n399 : Nat) (hk399 : ∀ (y2 : Int32) (y4 : Int32) (y5 : Int32) (y6 : Int32) (y7 : Int32) (y8 : Int32) (y9 : Int32) (H : HH) (t cells slots : Nat), RP t S H → t + 0 ≤ T → cells + (119 + 2 * n399) ≤ 2251 → slots + 6 * (119 + 2 * n399) ≤ 13506 → kk399 y2 y4 y5 y6 y7 y8 y9 = some res → V p l e (headSpec wsM_holds rmL_holds).room s m args below meth c9 g 13 cells slots (MQ below (QE g A9 res (WP cy A T S)) args s 2251 13506 A9) A9 A9 (WO cy A S H) 399 [(0, .ref A.1), (2, .int y2), (4, .int y4), (5, .int y5), (6, .int y6), (7, .int y7), (8, .int y8), (9, .int y9)] []) (y2 : Int32) (y4 : Int32) (y5 : Int32) (y7 : Int32) (y8 : Int32) (y9 : Int32) (y10 : Int32) (s0 : Int32) (H : HH) (t cells slots : Nat) (hI : RP t S H) (ht : t + 0 ≤ T) (hc : cells + (119 + 2 * n399) ≤ 2251) (hs : slots + 6 * (119 + 2 * n399) ≤ 13506) (h : pL_holds_433 S.1 kk399 y2 y4 y5 y7 y8 y9 y10 s0 = some res), V p l e (headSpec wsM_holds rmL_holds).room s m args below meth c9 g 13 cells slots (MQ below (QE g A9 res (WP cy A T S)) args s 2251 13506 A9) A9 A9 (WO cy A S H) 433 [(0, .ref A.1), (2, .int y2), (4, .int y4), (5, .int y5), (7, .int y7), (8, .int y8), (9, .int y9), (10, .int y10)] [.int s0] := by
  intro kk399 n399 hk399 y2 y4 y5 y7 y8 y9 y10 s0 H t cells slots hI ht hc hs h
  unfold pL_holds_433 at h
  refine v_iload hC dL_holds_433 5 rfl rfl ?_
  refine v_iconst hC (v := (-1)) dL_holds_435 (by decide) rfl ?_
  refine v_icmp_eq hC (tgt := 454) dL_holds_436 (by decide) rfl (fun c => ?_) (fun c => ?_)
  · have h := ite_t c h
    exact bL_holds_454 hC hr hX hT9 _ n399 hk399 _ _ _ _ _ _ _ _ _ _ _ _ hI (by omega) (by omega) (by omega) h
  · have h := ite_f c h
    refine v_iload hC dL_holds_439 5 rfl rfl ?_
    refine v_iload hC dL_holds_441 6 rfl rfl ?_
    refine v_ishr hC dL_holds_443 rfl ?_
    refine v_iconst hC (v := (nI 1)) dL_holds_444 (by decide) rfl ?_
    refine v_iand hC dL_holds_445 rfl ?_
    refine v_iconst hC (v := (nI 1)) dL_holds_446 (by decide) rfl ?_
    refine v_icmp_ne hC (tgt := 454) dL_holds_447 (by decide) rfl (fun c => ?_) (fun c => ?_)
    · have h := ite_f c h
      exact bL_holds_454 hC hr hX hT9 _ n399 hk399 _ _ _ _ _ _ _ _ _ _ _ _ hI (by omega) (by omega) (by omega) h
    · have h := ite_t c h
      refine v_iconst hC (v := (nI 1)) dL_holds_450 (by decide) rfl ?_
      refine v_goto hC (tgt := 455) dL_holds_451 (by decide) ?_
      exact bL_holds_455 hC hr hX hT9 _ n399 hk399 _ _ _ _ _ _ _ _ _ _ _ _ _ hI (by omega) (by omega) (by omega) h
set_option maxHeartbeats 4000000 in
set_option maxRecDepth 100000 in
theorem bL_holds_566 {p : Program} {l : Launch} {e : Env} {s : State} {m : MethodId} {args : Array Value} {below : List Frame} {meth : Method} {c9 : Code} {g : va_G} {cy : Nat → ClassId} {tt sa : Nat → Nat} {A9 : Nat → Prop} (hC : CX p s m args meth c9 g cy 13 cL_holds wsM_holds RL) (hr : meth.sig.returnType = some .boolean) (hX : XL l s tt sa A9) {A : AA} {T : Nat} (hT9 : T < 8000) {S : SS} {res : Int32} : ∀  (y6 : Int32) (H : HH) (t cells slots : Nat) (hI : RP t S H) (ht : t + 0 ≤ T) (hc : cells + 0 ≤ 2251) (hs : slots + 6 * 0 ≤ 13506) (h : pL_holds_566 S.1  y6 = some res), V p l e (headSpec wsM_holds rmL_holds).room s m args below meth c9 g 13 cells slots (MQ below (QE g A9 res (WP cy A T S)) args s 2251 13506 A9) A9 A9 (WO cy A S H) 566 [(6, .int y6)] [] := by
  intro  y6 H t cells slots hI ht hc hs h
  unfold pL_holds_566 at h
  refine v_iload hC dL_holds_566 0 rfl rfl ?_
  obtain ⟨e9, hn⟩ := bz_g h
  exact v_irE2 hC (by omega) (by omega) hr hn e9 dL_holds_568 ⟨_, hI.up (by omega), rfl⟩
set_option maxHeartbeats 4000000 in
set_option maxRecDepth 100000 in
theorem bL_holds_717 {p : Program} {l : Launch} {e : Env} {s : State} {m : MethodId} {args : Array Value} {below : List Frame} {meth : Method} {c9 : Code} {g : va_G} {cy : Nat → ClassId} {tt sa : Nat → Nat} {A9 : Nat → Prop} (hC : CX p s m args meth c9 g cy 13 cL_holds wsM_holds RL) (hr : meth.sig.returnType = some .boolean) (hX : XL l s tt sa A9) {A : AA} {T : Nat} (hT9 : T < 8000) {S : SS} {res : Int32} : ∀  (s0 : Int32) (H : HH) (t cells slots : Nat) (hI : RP t S H) (ht : t + 0 ≤ T) (hc : cells + 0 ≤ 2251) (hs : slots + 6 * 0 ≤ 13506) (h : pL_holds_717 S.1  s0 = some res), V p l e (headSpec wsM_holds rmL_holds).room s m args below meth c9 g 13 cells slots (MQ below (QE g A9 res (WP cy A T S)) args s 2251 13506 A9) A9 A9 (WO cy A S H) 717 [] [.int s0] := by
  intro  s0 H t cells slots hI ht hc hs h
  unfold pL_holds_717 at h
  obtain ⟨e9, hn⟩ := bz_g h
  exact v_irE2 hC (by omega) (by omega) hr hn e9 dL_holds_717 ⟨_, hI.up (by omega), rfl⟩
set_option maxHeartbeats 4000000 in
set_option maxRecDepth 100000 in
theorem bL_holds_716 {p : Program} {l : Launch} {e : Env} {s : State} {m : MethodId} {args : Array Value} {below : List Frame} {meth : Method} {c9 : Code} {g : va_G} {cy : Nat → ClassId} {tt sa : Nat → Nat} {A9 : Nat → Prop} (hC : CX p s m args meth c9 g cy 13 cL_holds wsM_holds RL) (hr : meth.sig.returnType = some .boolean) (hX : XL l s tt sa A9) {A : AA} {T : Nat} (hT9 : T < 8000) {S : SS} {res : Int32} : ∀   (H : HH) (t cells slots : Nat) (hI : RP t S H) (ht : t + 0 ≤ T) (hc : cells + 0 ≤ 2251) (hs : slots + 6 * 0 ≤ 13506) (h : pL_holds_716 S.1   = some res), V p l e (headSpec wsM_holds rmL_holds).room s m args below meth c9 g 13 cells slots (MQ below (QE g A9 res (WP cy A T S)) args s 2251 13506 A9) A9 A9 (WO cy A S H) 716 [] [] := by
  intro   H t cells slots hI ht hc hs h
  unfold pL_holds_716 at h
  refine v_iconst hC (v := (nI 0)) dL_holds_716 (by decide) rfl ?_
  exact bL_holds_717 hC hr hX hT9  _ _ _ _ _ hI (by omega) (by omega) (by omega) h
set_option maxHeartbeats 4000000 in
set_option maxRecDepth 100000 in
theorem bL_holds_648 {p : Program} {l : Launch} {e : Env} {s : State} {m : MethodId} {args : Array Value} {below : List Frame} {meth : Method} {c9 : Code} {g : va_G} {cy : Nat → ClassId} {tt sa : Nat → Nat} {A9 : Nat → Prop} (hC : CX p s m args meth c9 g cy 13 cL_holds wsM_holds RL) (hr : meth.sig.returnType = some .boolean) (hX : XL l s tt sa A9) {A : AA} {T : Nat} (hT9 : T < 8000) {S : SS} {res : Int32} : ∀  (y7 : Int32) (y8 : Int32) (y12 : Int32) (H : HH) (t cells slots : Nat) (hI : RP t S H) (ht : t + 0 ≤ T) (hc : cells + 104 ≤ 2251) (hs : slots + 6 * 104 ≤ 13506) (h : pL_holds_648 S.1  y7 y8 y12 = some res), V p l e (headSpec wsM_holds rmL_holds).room s m args below meth c9 g 13 cells slots (MQ below (QE g A9 res (WP cy A T S)) args s 2251 13506 A9) A9 A9 (WO cy A S H) 648 [(0, .ref A.1), (7, .int y7), (8, .int y8), (12, .int y12)] [] := by
  intro  y7 y8 y12 H t cells slots hI ht hc hs h
  unfold pL_holds_648 at h
  refine v_iload hC dL_holds_648 2 rfl rfl ?_
  obtain ⟨v1, hv1, h⟩ := bind_g h
  refine l_callN hC (n := 1) (As := [.int y8]) (st := []) (mL_bits l g cy y8 hv1) (goodIn_w gM_bits) rfl rfl rfl (by decide +kernel) ⟨Nat.le_of_ble_eq_true rfl, Nat.le_of_ble_eq_true rfl⟩ rfl (Nat.le_of_ble_eq_true rfl) rfl ⟨by show _ + 0 ≤ 2251; omega, by show _ + 0 ≤ 13506; omega⟩ dL_holds_650 rfl ?_
  refine v_aload_n hC dL_holds_653 rfl 0 rfl rfl ?_
  refine v_iconst hC (v := (nI 4)) dL_holds_654 (by decide) rfl ?_
  refine v_iload hC dL_holds_655 1 rfl rfl ?_
  refine v_iconst hC (v := (nI 1)) dL_holds_657 (by decide) rfl ?_
  refine v_iconst hC (v := (nI 0)) dL_holds_658 (by decide) rfl ?_
  refine l_callF hC hX (n := 5) (As := [.ref A.1, .int (nI 4), .int y7, .int (nI 1), .int (nI 0)]) (st := [.int v1]) (fun w => w) (fun sz => mC_Scene l hX.1 g cy tt sa sz A y7 (nI 1) (nI 0) hI (by omega)) (WR.full rfl) (fun w9 h9 => WR.full (WP_fst h9)) (goodIn_w gM_call) rfl rfl rfl (by decide +kernel) ⟨Nat.le_of_ble_eq_true rfl, Nat.le_of_ble_eq_true rfl⟩ rfl (Nat.le_of_ble_eq_true rfl) rfl ⟨by show _ + 2 ≤ 2251; omega, by show _ + 12 ≤ 13506; omega⟩ dL_holds_659 rfl (fun w9 h9 => ?_)
  obtain ⟨H2, hI3, rfl⟩ := h9
  refine v_eqw (ws' := WO cy A S H2) rfl ?_
  refine v_icmp_ne hC (tgt := 716) dL_holds_662 (by decide) rfl (fun c => ?_) (fun c => ?_)
  · have h := ite_f c h
    exact v_sub [] (lv' := []) rfl (bL_holds_716 hC hr hX hT9   _ _ _ _ hI3 (by omega) (by omega) (by omega) h)
  · have h := ite_t c h
    refine v_aload_n hC dL_holds_665 rfl 0 rfl rfl ?_
    refine v_iload hC dL_holds_666 2 rfl rfl ?_
    obtain ⟨v4, hv4, h⟩ := bind_g h
    refine l_callF hC hX (n := 2) (As := [.ref A.1, .int y8]) (st := []) (fun w => w) (fun sz => mL_facesOf l hX.1 g cy tt sa sz A y8 hI3 (by omega) hv4) (WR.full rfl) (fun w9 h9 => WR.full (WP_fst h9)) (goodIn_w gM_facesOf) rfl rfl rfl (by decide +kernel) ⟨Nat.le_of_ble_eq_true rfl, Nat.le_of_ble_eq_true rfl⟩ rfl (Nat.le_of_ble_eq_true rfl) rfl ⟨by show _ + 49 ≤ 2251; omega, by show _ + 294 ≤ 13506; omega⟩ dL_holds_668 rfl (fun w9 h9 => ?_)
    obtain ⟨H5, hI6, rfl⟩ := h9
    refine v_eqw (ws' := WO cy A S H5) rfl ?_
    refine v_aload_n hC dL_holds_671 rfl 0 rfl rfl ?_
    refine v_iconst hC (v := (nI 4)) dL_holds_672 (by decide) rfl ?_
    refine v_iload hC dL_holds_673 1 rfl rfl ?_
    refine v_bipush hC (v := (nI 8)) dL_holds_675 (by decide) rfl ?_
    refine v_iconst hC (v := (nI 0)) dL_holds_677 (by decide) rfl ?_
    refine l_callF hC hX (n := 5) (As := [.ref A.1, .int (nI 4), .int y7, .int (nI 8), .int (nI 0)]) (st := [.int v4]) (fun w => w) (fun sz => mC_Scene l hX.1 g cy tt sa sz A y7 (nI 8) (nI 0) hI6 (by omega)) (WR.full rfl) (fun w9 h9 => WR.full (WP_fst h9)) (goodIn_w gM_call) rfl rfl rfl (by decide +kernel) ⟨Nat.le_of_ble_eq_true rfl, Nat.le_of_ble_eq_true rfl⟩ rfl (Nat.le_of_ble_eq_true rfl) rfl ⟨by show _ + 2 ≤ 2251; omega, by show _ + 12 ≤ 13506; omega⟩ dL_holds_678 rfl (fun w9 h9 => ?_)
    obtain ⟨H7, hI8, rfl⟩ := h9
    refine v_eqw (ws' := WO cy A S H7) rfl ?_
    refine v_iand hC dL_holds_681 rfl ?_
    refine v_if_ne hC (tgt := 716) dL_holds_682 (by decide) rfl (fun c => ?_) (fun c => ?_)
    · have h := ite_f c h
      exact v_sub [] (lv' := []) rfl (bL_holds_716 hC hr hX hT9   _ _ _ _ hI8 (by omega) (by omega) (by omega) h)
    · have h := ite_t c h
      refine v_aload_n hC dL_holds_685 rfl 0 rfl rfl ?_
      refine v_bipush hC (v := (nI 11)) dL_holds_686 (by decide) rfl ?_
      refine v_iload hC dL_holds_688 1 rfl rfl ?_
      refine v_iconst hC (v := (nI 3)) dL_holds_690 (by decide) rfl ?_
      refine v_iconst hC (v := (nI 0)) dL_holds_691 (by decide) rfl ?_
      refine l_callF hC hX (n := 5) (As := [.ref A.1, .int (nI 11), .int y7, .int (nI 3), .int (nI 0)]) (st := []) (fun w => w) (fun sz => mC_Would l hX.1 g cy tt sa sz A y7 (nI 3) (nI 0) hI8 (by omega)) (WR.full rfl) (fun w9 h9 => WR.full (WP_fst h9)) (goodIn_w gM_call) rfl rfl rfl (by decide +kernel) ⟨Nat.le_of_ble_eq_true rfl, Nat.le_of_ble_eq_true rfl⟩ rfl (Nat.le_of_ble_eq_true rfl) rfl ⟨by show _ + 2 ≤ 2251; omega, by show _ + 12 ≤ 13506; omega⟩ dL_holds_692 rfl (fun w9 h9 => ?_)
      obtain ⟨H9, hI10, rfl⟩ := h9
      refine v_eqw (ws' := WO cy A S H9) rfl ?_
      refine v_iload hC dL_holds_695 3 rfl rfl ?_
      refine v_aload_n hC dL_holds_697 rfl 0 rfl rfl ?_
      refine v_iload hC dL_holds_698 2 rfl rfl ?_
      obtain ⟨v11, hv11, h⟩ := bind_g h
      refine l_callF hC hX (n := 2) (As := [.ref A.1, .int y8]) (st := [.int y12, .int (aWo S.1 y7 (nI 3))]) (fun w => w) (fun sz => mL_facesOf l hX.1 g cy tt sa sz A y8 hI10 (by omega) hv11) (WR.full rfl) (fun w9 h9 => WR.full (WP_fst h9)) (goodIn_w gM_facesOf) rfl rfl rfl (by decide +kernel) ⟨Nat.le_of_ble_eq_true rfl, Nat.le_of_ble_eq_true rfl⟩ rfl (Nat.le_of_ble_eq_true rfl) rfl ⟨by show _ + 49 ≤ 2251; omega, by show _ + 294 ≤ 13506; omega⟩ dL_holds_700 rfl (fun w9 h9 => ?_)
      obtain ⟨H12, hI13, rfl⟩ := h9
      refine v_eqw (ws' := WO cy A S H12) rfl ?_
      refine v_iconst hC (v := (-1)) dL_holds_703 (by decide) rfl ?_
      refine v_ixor hC dL_holds_704 rfl ?_
      refine v_iand hC dL_holds_705 rfl ?_
      obtain ⟨v14, hv14, h⟩ := bind_g h
      refine l_callN hC (n := 1) (As := [.int (y12 &&& (v11 ^^^ (-1)))]) (st := [.int (aWo S.1 y7 (nI 3))]) (mL_bits l g cy (y12 &&& (v11 ^^^ (-1))) hv14) (goodIn_w gM_bits) rfl rfl rfl (by decide +kernel) ⟨Nat.le_of_ble_eq_true rfl, Nat.le_of_ble_eq_true rfl⟩ rfl (Nat.le_of_ble_eq_true rfl) rfl ⟨by show _ + 0 ≤ 2251; omega, by show _ + 0 ≤ 13506; omega⟩ dL_holds_706 rfl ?_
      refine v_icmp_ne hC (tgt := 716) dL_holds_709 (by decide) rfl (fun c => ?_) (fun c => ?_)
      · have h := ite_f c h
        exact v_sub [] (lv' := []) rfl (bL_holds_716 hC hr hX hT9   _ _ _ _ hI13 (by omega) (by omega) (by omega) h)
      · have h := ite_t c h
        refine v_iconst hC (v := (nI 1)) dL_holds_712 (by decide) rfl ?_
        refine v_goto hC (tgt := 717) dL_holds_713 (by decide) ?_
        exact v_sub [] (lv' := []) rfl (bL_holds_717 hC hr hX hT9  _ _ _ _ _ hI13 (by omega) (by omega) (by omega) h)
set_option maxHeartbeats 4000000 in
set_option maxRecDepth 100000 in
theorem bL_holds_553 {p : Program} {l : Launch} {e : Env} {s : State} {m : MethodId} {args : Array Value} {below : List Frame} {meth : Method} {c9 : Code} {g : va_G} {cy : Nat → ClassId} {tt sa : Nat → Nat} {A9 : Nat → Prop} (hC : CX p s m args meth c9 g cy 13 cL_holds wsM_holds RL) (hr : meth.sig.returnType = some .boolean) (hX : XL l s tt sa A9) {A : AA} {T : Nat} (hT9 : T < 8000) {S : SS} {res : Int32} : ∀  (y7 : Int32) (y8 : Int32) (y9 : Int32) (s0 : Int32) (H : HH) (t cells slots : Nat) (hI : RP t S H) (ht : t + 0 ≤ T) (hc : cells + 114 ≤ 2251) (hs : slots + 6 * 114 ≤ 13506) (h : pL_holds_553 S.1  y7 y8 y9 s0 = some res), V p l e (headSpec wsM_holds rmL_holds).room s m args below meth c9 g 13 cells slots (MQ below (QE g A9 res (WP cy A T S)) args s 2251 13506 A9) A9 A9 (WO cy A S H) 553 [(0, .ref A.1), (7, .int y7), (8, .int y8), (9, .int y9)] [.int s0] := by
  intro  y7 y8 y9 s0 H t cells slots hI ht hc hs h
  unfold pL_holds_553 at h
  refine v_istore hC dL_holds_553 (by decide) [(6, .int s0), (0, .ref A.1), (7, .int y7), (8, .int y8), (9, .int y9)] rfl rfl ?_
  refine v_iload hC dL_holds_555 0 rfl rfl ?_
  refine v_if_eq hC (tgt := 566) dL_holds_557 (by decide) rfl (fun c => ?_) (fun c => ?_)
  · have h := ite_t c h
    exact v_sub [0] (lv' := [(6, .int s0)]) rfl (bL_holds_566 hC hr hX hT9  _ _ _ _ _ hI (by omega) (by omega) (by omega) h)
  · have h := ite_f c h
    refine v_iload hC dL_holds_560 3 rfl rfl ?_
    refine v_iconst hC (v := (-1)) dL_holds_562 (by decide) rfl ?_
    refine v_icmp_ne hC (tgt := 569) dL_holds_563 (by decide) rfl (fun c => ?_) (fun c => ?_)
    · have h := ite_f c h
      refine v_aload_n hC dL_holds_569 rfl 1 rfl rfl ?_
      refine v_bipush hC (v := (nI 11)) dL_holds_570 (by decide) rfl ?_
      refine v_iload hC dL_holds_572 2 rfl rfl ?_
      refine v_iconst hC (v := (nI 1)) dL_holds_574 (by decide) rfl ?_
      refine v_iconst hC (v := (nI 0)) dL_holds_575 (by decide) rfl ?_
      refine l_callF hC hX (n := 5) (As := [.ref A.1, .int (nI 11), .int y7, .int (nI 1), .int (nI 0)]) (st := []) (fun w => w) (fun sz => mC_Would l hX.1 g cy tt sa sz A y7 (nI 1) (nI 0) hI (by omega)) (WR.full rfl) (fun w9 h9 => WR.full (WP_fst h9)) (goodIn_w gM_call) rfl rfl rfl (by decide +kernel) ⟨Nat.le_of_ble_eq_true rfl, Nat.le_of_ble_eq_true rfl⟩ rfl (Nat.le_of_ble_eq_true rfl) rfl ⟨by show _ + 2 ≤ 2251; omega, by show _ + 12 ≤ 13506; omega⟩ dL_holds_576 rfl (fun w9 h9 => ?_)
      obtain ⟨H1, hI2, rfl⟩ := h9
      refine v_eqw (ws' := WO cy A S H1) rfl ?_
      refine v_aload_n hC dL_holds_579 rfl 1 rfl rfl ?_
      refine v_bipush hC (v := (nI 11)) dL_holds_580 (by decide) rfl ?_
      refine v_iload hC dL_holds_582 2 rfl rfl ?_
      refine v_iconst hC (v := (nI 2)) dL_holds_584 (by decide) rfl ?_
      refine v_iconst hC (v := (nI 0)) dL_holds_585 (by decide) rfl ?_
      refine l_callF hC hX (n := 5) (As := [.ref A.1, .int (nI 11), .int y7, .int (nI 2), .int (nI 0)]) (st := [.int (aWo S.1 y7 (nI 1))]) (fun w => w) (fun sz => mC_Would l hX.1 g cy tt sa sz A y7 (nI 2) (nI 0) hI2 (by omega)) (WR.full rfl) (fun w9 h9 => WR.full (WP_fst h9)) (goodIn_w gM_call) rfl rfl rfl (by decide +kernel) ⟨Nat.le_of_ble_eq_true rfl, Nat.le_of_ble_eq_true rfl⟩ rfl (Nat.le_of_ble_eq_true rfl) rfl ⟨by show _ + 2 ≤ 2251; omega, by show _ + 12 ≤ 13506; omega⟩ dL_holds_586 rfl (fun w9 h9 => ?_)
      obtain ⟨H3, hI4, rfl⟩ := h9
      refine v_eqw (ws' := WO cy A S H3) rfl ?_
      refine v_iadd hC dL_holds_589 rfl ?_
      refine v_istore hC dL_holds_590 (by decide) [(10, .int ((aWo S.1 y7 (nI 1)) + (aWo S.1 y7 (nI 2)))), (6, .int s0), (0, .ref A.1), (7, .int y7), (8, .int y8), (9, .int y9)] rfl rfl ?_
      refine v_aload_n hC dL_holds_592 rfl 2 rfl rfl ?_
      refine v_bipush hC (v := (nI 11)) dL_holds_593 (by decide) rfl ?_
      refine v_iload hC dL_holds_595 5 rfl rfl ?_
      refine v_iconst hC (v := (nI 1)) dL_holds_597 (by decide) rfl ?_
      refine v_iconst hC (v := (nI 0)) dL_holds_598 (by decide) rfl ?_
      refine l_callF hC hX (n := 5) (As := [.ref A.1, .int (nI 11), .int y9, .int (nI 1), .int (nI 0)]) (st := []) (fun w => w) (fun sz => mC_Would l hX.1 g cy tt sa sz A y9 (nI 1) (nI 0) hI4 (by omega)) (WR.full rfl) (fun w9 h9 => WR.full (WP_fst h9)) (goodIn_w gM_call) rfl rfl rfl (by decide +kernel) ⟨Nat.le_of_ble_eq_true rfl, Nat.le_of_ble_eq_true rfl⟩ rfl (Nat.le_of_ble_eq_true rfl) rfl ⟨by show _ + 2 ≤ 2251; omega, by show _ + 12 ≤ 13506; omega⟩ dL_holds_599 rfl (fun w9 h9 => ?_)
      obtain ⟨H5, hI6, rfl⟩ := h9
      refine v_eqw (ws' := WO cy A S H5) rfl ?_
      refine v_aload_n hC dL_holds_602 rfl 2 rfl rfl ?_
      refine v_bipush hC (v := (nI 11)) dL_holds_603 (by decide) rfl ?_
      refine v_iload hC dL_holds_605 5 rfl rfl ?_
      refine v_iconst hC (v := (nI 2)) dL_holds_607 (by decide) rfl ?_
      refine v_iconst hC (v := (nI 0)) dL_holds_608 (by decide) rfl ?_
      refine l_callF hC hX (n := 5) (As := [.ref A.1, .int (nI 11), .int y9, .int (nI 2), .int (nI 0)]) (st := [.int (aWo S.1 y9 (nI 1))]) (fun w => w) (fun sz => mC_Would l hX.1 g cy tt sa sz A y9 (nI 2) (nI 0) hI6 (by omega)) (WR.full rfl) (fun w9 h9 => WR.full (WP_fst h9)) (goodIn_w gM_call) rfl rfl rfl (by decide +kernel) ⟨Nat.le_of_ble_eq_true rfl, Nat.le_of_ble_eq_true rfl⟩ rfl (Nat.le_of_ble_eq_true rfl) rfl ⟨by show _ + 2 ≤ 2251; omega, by show _ + 12 ≤ 13506; omega⟩ dL_holds_609 rfl (fun w9 h9 => ?_)
      obtain ⟨H7, hI8, rfl⟩ := h9
      refine v_eqw (ws' := WO cy A S H7) rfl ?_
      refine v_iadd hC dL_holds_612 rfl ?_
      refine v_istore hC dL_holds_613 (by decide) [(11, .int ((aWo S.1 y9 (nI 1)) + (aWo S.1 y9 (nI 2)))), (10, .int ((aWo S.1 y7 (nI 1)) + (aWo S.1 y7 (nI 2)))), (6, .int s0), (0, .ref A.1), (7, .int y7), (8, .int y8), (9, .int y9)] rfl rfl ?_
      refine v_aload_n hC dL_holds_615 rfl 3 rfl rfl ?_
      refine v_iconst hC (v := (nI 4)) dL_holds_616 (by decide) rfl ?_
      refine v_iload hC dL_holds_617 4 rfl rfl ?_
      refine v_bipush hC (v := (nI 7)) dL_holds_619 (by decide) rfl ?_
      refine v_iconst hC (v := (nI 0)) dL_holds_621 (by decide) rfl ?_
      refine l_callF hC hX (n := 5) (As := [.ref A.1, .int (nI 4), .int y7, .int (nI 7), .int (nI 0)]) (st := []) (fun w => w) (fun sz => mC_Scene l hX.1 g cy tt sa sz A y7 (nI 7) (nI 0) hI8 (by omega)) (WR.full rfl) (fun w9 h9 => WR.full (WP_fst h9)) (goodIn_w gM_call) rfl rfl rfl (by decide +kernel) ⟨Nat.le_of_ble_eq_true rfl, Nat.le_of_ble_eq_true rfl⟩ rfl (Nat.le_of_ble_eq_true rfl) rfl ⟨by show _ + 2 ≤ 2251; omega, by show _ + 12 ≤ 13506; omega⟩ dL_holds_622 rfl (fun w9 h9 => ?_)
      obtain ⟨H9, hI10, rfl⟩ := h9
      refine v_eqw (ws' := WO cy A S H9) rfl ?_
      refine v_istore hC dL_holds_625 (by decide) [(12, .int (aSc S.1 y7 (nI 7))), (11, .int ((aWo S.1 y9 (nI 1)) + (aWo S.1 y9 (nI 2)))), (10, .int ((aWo S.1 y7 (nI 1)) + (aWo S.1 y7 (nI 2)))), (6, .int s0), (0, .ref A.1), (7, .int y7), (8, .int y8), (9, .int y9)] rfl rfl ?_
      refine v_iload hC dL_holds_627 1 rfl rfl ?_
      refine v_iload hC dL_holds_629 2 rfl rfl ?_
      refine v_icmp_gt hC (tgt := 716) dL_holds_631 (by decide) rfl (fun c => ?_) (fun c => ?_)
      · have h := ite_t c h
        exact v_sub [] (lv' := []) rfl (bL_holds_716 hC hr hX hT9   _ _ _ _ hI10 (by omega) (by omega) (by omega) h)
      · have h := ite_f c h
        refine v_iload hC dL_holds_634 1 rfl rfl ?_
        refine v_iload hC dL_holds_636 2 rfl rfl ?_
        refine v_icmp_lt hC (tgt := 648) dL_holds_638 (by decide) rfl (fun c => ?_) (fun c => ?_)
        · have h := ite_t c h
          exact v_sub [4, 5, 6, 0] (lv' := [(0, .ref A.1), (7, .int y7), (8, .int y8), (12, .int (aSc S.1 y7 (nI 7)))]) rfl (bL_holds_648 hC hr hX hT9  _ _ _ _ _ _ _ hI10 (by omega) (by omega) (by omega) h)
        · have h := ite_f c h
          refine v_iload hC dL_holds_641 7 rfl rfl ?_
          refine v_iload hC dL_holds_643 5 rfl rfl ?_
          refine v_icmp_gt hC (tgt := 716) dL_holds_645 (by decide) rfl (fun c => ?_) (fun c => ?_)
          · have h := ite_t c h
            exact v_sub [] (lv' := []) rfl (bL_holds_716 hC hr hX hT9   _ _ _ _ hI10 (by omega) (by omega) (by omega) h)
          · have h := ite_f c h
            exact v_sub [4, 5, 6, 0] (lv' := [(0, .ref A.1), (7, .int y7), (8, .int y8), (12, .int (aSc S.1 y7 (nI 7)))]) rfl (bL_holds_648 hC hr hX hT9  _ _ _ _ _ _ _ hI10 (by omega) (by omega) (by omega) h)
    · have h := ite_t c h
      exact v_sub [0] (lv' := [(6, .int s0)]) rfl (bL_holds_566 hC hr hX hT9  _ _ _ _ _ hI (by omega) (by omega) (by omega) h)
set_option maxHeartbeats 4000000 in
set_option maxRecDepth 100000 in
theorem bL_holds_548 {p : Program} {l : Launch} {e : Env} {s : State} {m : MethodId} {args : Array Value} {below : List Frame} {meth : Method} {c9 : Code} {g : va_G} {cy : Nat → ClassId} {tt sa : Nat → Nat} {A9 : Nat → Prop} (hC : CX p s m args meth c9 g cy 13 cL_holds wsM_holds RL) (hr : meth.sig.returnType = some .boolean) (hX : XL l s tt sa A9) {A : AA} {T : Nat} (hT9 : T < 8000) {S : SS} {res : Int32} : ∀  (y7 : Int32) (y8 : Int32) (y9 : Int32) (H : HH) (t cells slots : Nat) (hI : RP t S H) (ht : t + 0 ≤ T) (hc : cells + 114 ≤ 2251) (hs : slots + 6 * 114 ≤ 13506) (h : pL_holds_548 S.1  y7 y8 y9 = some res), V p l e (headSpec wsM_holds rmL_holds).room s m args below meth c9 g 13 cells slots (MQ below (QE g A9 res (WP cy A T S)) args s 2251 13506 A9) A9 A9 (WO cy A S H) 548 [(0, .ref A.1), (7, .int y7), (8, .int y8), (9, .int y9)] [] := by
  intro  y7 y8 y9 H t cells slots hI ht hc hs h
  unfold pL_holds_548 at h
  refine v_iconst hC (v := (nI 1)) dL_holds_548 (by decide) rfl ?_
  refine v_goto hC (tgt := 553) dL_holds_549 (by decide) ?_
  exact bL_holds_553 hC hr hX hT9  _ _ _ _ _ _ _ _ hI (by omega) (by omega) (by omega) h
set_option maxHeartbeats 4000000 in
set_option maxRecDepth 100000 in
theorem bL_holds_552 {p : Program} {l : Launch} {e : Env} {s : State} {m : MethodId} {args : Array Value} {below : List Frame} {meth : Method} {c9 : Code} {g : va_G} {cy : Nat → ClassId} {tt sa : Nat → Nat} {A9 : Nat → Prop} (hC : CX p s m args meth c9 g cy 13 cL_holds wsM_holds RL) (hr : meth.sig.returnType = some .boolean) (hX : XL l s tt sa A9) {A : AA} {T : Nat} (hT9 : T < 8000) {S : SS} {res : Int32} : ∀  (y7 : Int32) (y8 : Int32) (y9 : Int32) (H : HH) (t cells slots : Nat) (hI : RP t S H) (ht : t + 0 ≤ T) (hc : cells + 114 ≤ 2251) (hs : slots + 6 * 114 ≤ 13506) (h : pL_holds_552 S.1  y7 y8 y9 = some res), V p l e (headSpec wsM_holds rmL_holds).room s m args below meth c9 g 13 cells slots (MQ below (QE g A9 res (WP cy A T S)) args s 2251 13506 A9) A9 A9 (WO cy A S H) 552 [(0, .ref A.1), (7, .int y7), (8, .int y8), (9, .int y9)] [] := by
  intro  y7 y8 y9 H t cells slots hI ht hc hs h
  unfold pL_holds_552 at h
  refine v_iconst hC (v := (nI 0)) dL_holds_552 (by decide) rfl ?_
  exact bL_holds_553 hC hr hX hT9  _ _ _ _ _ _ _ _ hI (by omega) (by omega) (by omega) h
set_option maxHeartbeats 4000000 in
set_option maxRecDepth 100000 in
theorem bL_holds_483 {p : Program} {l : Launch} {e : Env} {s : State} {m : MethodId} {args : Array Value} {below : List Frame} {meth : Method} {c9 : Code} {g : va_G} {cy : Nat → ClassId} {tt sa : Nat → Nat} {A9 : Nat → Prop} (hC : CX p s m args meth c9 g cy 13 cL_holds wsM_holds RL) (hr : meth.sig.returnType = some .boolean) (hX : XL l s tt sa A9) {A : AA} {T : Nat} (hT9 : T < 8000) {S : SS} {res : Int32} : ∀  (y4 : Int32) (y5 : Int32) (y6 : Int32) (y7 : Int32) (y8 : Int32) (H : HH) (t cells slots : Nat) (hI : RP t S H) (ht : t + 0 ≤ T) (hc : cells + 119 ≤ 2251) (hs : slots + 6 * 119 ≤ 13506) (h : pL_holds_483 S.1  y4 y5 y6 y7 y8 = some res), V p l e (headSpec wsM_holds rmL_holds).room s m args below meth c9 g 13 cells slots (MQ below (QE g A9 res (WP cy A T S)) args s 2251 13506 A9) A9 A9 (WO cy A S H) 483 [(0, .ref A.1), (4, .int y4), (5, .int y5), (6, .int y6), (7, .int y7), (8, .int y8)] [] := by
  intro  y4 y5 y6 y7 y8 H t cells slots hI ht hc hs h
  unfold pL_holds_483 at h
  refine v_aload_n hC dL_holds_483 rfl 0 rfl rfl ?_
  refine l_callR hC (n := 0) (As := []) (st := []) (m_cheap l g cy A hI (by omega)) (WO_film cy A S _) (goodIn_w gM_cheapest) rfl rfl rfl (by decide +kernel) ⟨Nat.le_of_ble_eq_true rfl, Nat.le_of_ble_eq_true rfl⟩ 0 rfl rfl rfl (Nat.le_of_ble_eq_true rfl) rfl ⟨by show _ + 0 ≤ 2251; omega, by show _ + 0 ≤ 13506; omega⟩ dL_holds_484 rfl ?_
  refine v_istore hC dL_holds_487 (by decide) [(9, .int (aCh S.1)), (0, .ref A.1), (4, .int y4), (5, .int y5), (6, .int y6), (7, .int y7), (8, .int y8)] rfl rfl ?_
  refine v_iload hC dL_holds_489 4 rfl rfl ?_
  refine v_if_eq hC (tgt := 552) dL_holds_491 (by decide) rfl (fun c => ?_) (fun c => ?_)
  · have h := ite_t c h
    exact v_sub [1, 5, 6, 0] (lv' := [(0, .ref A.1), (7, .int y7), (8, .int y8), (9, .int (aCh S.1))]) rfl (bL_holds_552 hC hr hX hT9  _ _ _ _ _ _ _ hI (by omega) (by omega) (by omega) h)
  · have h := ite_f c h
    refine v_aload_n hC dL_holds_494 rfl 1 rfl rfl ?_
    refine v_iconst hC (v := (nI 2)) dL_holds_495 (by decide) rfl ?_
    refine v_iconst hC (v := (nI 2)) dL_holds_496 (by decide) rfl ?_
    refine v_iconst hC (v := (nI 0)) dL_holds_497 (by decide) rfl ?_
    refine v_iconst hC (v := (nI 0)) dL_holds_498 (by decide) rfl ?_
    refine l_callF hC hX (n := 5) (As := [.ref A.1, .int (nI 2), .int (nI 2), .int (nI 0), .int (nI 0)]) (st := []) (fun w => w) (fun sz => mC_About l hX.1 g cy tt sa sz A (nI 2) (nI 0) (nI 0) hI (by omega)) (WR.full rfl) (fun w9 h9 => WR.full (WP_fst h9)) (goodIn_w gM_call) rfl rfl rfl (by decide +kernel) ⟨Nat.le_of_ble_eq_true rfl, Nat.le_of_ble_eq_true rfl⟩ rfl (Nat.le_of_ble_eq_true rfl) rfl ⟨by show _ + 1 ≤ 2251; omega, by show _ + 6 ≤ 13506; omega⟩ dL_holds_499 rfl (fun w9 h9 => ?_)
    obtain ⟨H1, hI2, rfl⟩ := h9
    refine v_eqw (ws' := WO cy A S H1) rfl ?_
    refine v_iload hC dL_holds_502 2 rfl rfl ?_
    refine v_icmp_ne hC (tgt := 552) dL_holds_504 (by decide) rfl (fun c => ?_) (fun c => ?_)
    · have h := ite_f c h
      exact v_sub [1, 5, 6, 0] (lv' := [(0, .ref A.1), (7, .int y7), (8, .int y8), (9, .int (aCh S.1))]) rfl (bL_holds_552 hC hr hX hT9  _ _ _ _ _ _ _ hI2 (by omega) (by omega) (by omega) h)
    · have h := ite_t c h
      refine v_aload_n hC dL_holds_507 rfl 1 rfl rfl ?_
      refine v_iconst hC (v := (nI 2)) dL_holds_508 (by decide) rfl ?_
      refine v_iconst hC (v := (nI 4)) dL_holds_509 (by decide) rfl ?_
      refine v_iconst hC (v := (nI 0)) dL_holds_510 (by decide) rfl ?_
      refine v_iconst hC (v := (nI 0)) dL_holds_511 (by decide) rfl ?_
      refine l_callF hC hX (n := 5) (As := [.ref A.1, .int (nI 2), .int (nI 4), .int (nI 0), .int (nI 0)]) (st := []) (fun w => w) (fun sz => mC_About l hX.1 g cy tt sa sz A (nI 4) (nI 0) (nI 0) hI2 (by omega)) (WR.full rfl) (fun w9 h9 => WR.full (WP_fst h9)) (goodIn_w gM_call) rfl rfl rfl (by decide +kernel) ⟨Nat.le_of_ble_eq_true rfl, Nat.le_of_ble_eq_true rfl⟩ rfl (Nat.le_of_ble_eq_true rfl) rfl ⟨by show _ + 1 ≤ 2251; omega, by show _ + 6 ≤ 13506; omega⟩ dL_holds_512 rfl (fun w9 h9 => ?_)
      obtain ⟨H3, hI4, rfl⟩ := h9
      refine v_eqw (ws' := WO cy A S H3) rfl ?_
      refine v_aload_n hC dL_holds_515 rfl 1 rfl rfl ?_
      refine v_iconst hC (v := (nI 2)) dL_holds_516 (by decide) rfl ?_
      refine v_iconst hC (v := (nI 5)) dL_holds_517 (by decide) rfl ?_
      refine v_iconst hC (v := (nI 0)) dL_holds_518 (by decide) rfl ?_
      refine v_iconst hC (v := (nI 0)) dL_holds_519 (by decide) rfl ?_
      refine l_callF hC hX (n := 5) (As := [.ref A.1, .int (nI 2), .int (nI 5), .int (nI 0), .int (nI 0)]) (st := [.int (aAb S.1 (nI 4))]) (fun w => w) (fun sz => mC_About l hX.1 g cy tt sa sz A (nI 5) (nI 0) (nI 0) hI4 (by omega)) (WR.full rfl) (fun w9 h9 => WR.full (WP_fst h9)) (goodIn_w gM_call) rfl rfl rfl (by decide +kernel) ⟨Nat.le_of_ble_eq_true rfl, Nat.le_of_ble_eq_true rfl⟩ rfl (Nat.le_of_ble_eq_true rfl) rfl ⟨by show _ + 1 ≤ 2251; omega, by show _ + 6 ≤ 13506; omega⟩ dL_holds_520 rfl (fun w9 h9 => ?_)
      obtain ⟨H5, hI6, rfl⟩ := h9
      refine v_eqw (ws' := WO cy A S H5) rfl ?_
      refine v_iadd hC dL_holds_523 rfl ?_
      refine v_iload hC dL_holds_524 3 rfl rfl ?_
      refine v_icmp_ne hC (tgt := 552) dL_holds_526 (by decide) rfl (fun c => ?_) (fun c => ?_)
      · have h := ite_f c h
        exact v_sub [1, 5, 6, 0] (lv' := [(0, .ref A.1), (7, .int y7), (8, .int y8), (9, .int (aCh S.1))]) rfl (bL_holds_552 hC hr hX hT9  _ _ _ _ _ _ _ hI6 (by omega) (by omega) (by omega) h)
      · have h := ite_t c h
        refine v_iload hC dL_holds_529 0 rfl rfl ?_
        refine v_iconst hC (v := (-1)) dL_holds_531 (by decide) rfl ?_
        refine v_icmp_eq hC (tgt := 548) dL_holds_532 (by decide) rfl (fun c => ?_) (fun c => ?_)
        · have h := ite_t c h
          exact v_sub [1, 5, 6, 0] (lv' := [(0, .ref A.1), (7, .int y7), (8, .int y8), (9, .int (aCh S.1))]) rfl (bL_holds_548 hC hr hX hT9  _ _ _ _ _ _ _ hI6 (by omega) (by omega) (by omega) h)
        · have h := ite_f c h
          refine v_aload_n hC dL_holds_535 rfl 1 rfl rfl ?_
          refine v_bipush hC (v := (nI 11)) dL_holds_536 (by decide) rfl ?_
          refine v_iload hC dL_holds_538 0 rfl rfl ?_
          refine v_iconst hC (v := (nI 0)) dL_holds_540 (by decide) rfl ?_
          refine v_iconst hC (v := (nI 0)) dL_holds_541 (by decide) rfl ?_
          refine l_callF hC hX (n := 5) (As := [.ref A.1, .int (nI 11), .int (aCh S.1), .int (nI 0), .int (nI 0)]) (st := []) (fun w => w) (fun sz => mC_Would l hX.1 g cy tt sa sz A (aCh S.1) (nI 0) (nI 0) hI6 (by omega)) (WR.full rfl) (fun w9 h9 => WR.full (WP_fst h9)) (goodIn_w gM_call) rfl rfl rfl (by decide +kernel) ⟨Nat.le_of_ble_eq_true rfl, Nat.le_of_ble_eq_true rfl⟩ rfl (Nat.le_of_ble_eq_true rfl) rfl ⟨by show _ + 2 ≤ 2251; omega, by show _ + 12 ≤ 13506; omega⟩ dL_holds_542 rfl (fun w9 h9 => ?_)
          obtain ⟨H7, hI8, rfl⟩ := h9
          refine v_eqw (ws' := WO cy A S H7) rfl ?_
          refine v_if_le hC (tgt := 552) dL_holds_545 (by decide) rfl (fun c => ?_) (fun c => ?_)
          · have h := ite_t c h
            exact v_sub [1, 5, 6, 0] (lv' := [(0, .ref A.1), (7, .int y7), (8, .int y8), (9, .int (aCh S.1))]) rfl (bL_holds_552 hC hr hX hT9  _ _ _ _ _ _ _ hI8 (by omega) (by omega) (by omega) h)
          · have h := ite_f c h
            exact v_sub [1, 5, 6, 0] (lv' := [(0, .ref A.1), (7, .int y7), (8, .int y8), (9, .int (aCh S.1))]) rfl (bL_holds_548 hC hr hX hT9  _ _ _ _ _ _ _ hI8 (by omega) (by omega) (by omega) h)
set_option maxHeartbeats 4000000 in
set_option maxRecDepth 100000 in
theorem bL_holds_399 {p : Program} {l : Launch} {e : Env} {s : State} {m : MethodId} {args : Array Value} {below : List Frame} {meth : Method} {c9 : Code} {g : va_G} {cy : Nat → ClassId} {tt sa : Nat → Nat} {A9 : Nat → Prop} (hC : CX p s m args meth c9 g cy 13 cL_holds wsM_holds RL) (hr : meth.sig.returnType = some .boolean) (hX : XL l s tt sa A9) {A : AA} {T : Nat} (hT9 : T < 8000) {S : SS} {res : Int32} : ∀  (k : Nat) (y2 : Int32) (y4 : Int32) (y5 : Int32) (y6 : Int32) (y7 : Int32) (y8 : Int32) (y9 : Int32) (H : HH) (t cells slots : Nat) (hI : RP t S H) (ht : t + 0 ≤ T) (hc : cells + (119 + 2 * k) ≤ 2251) (hs : slots + 6 * (119 + 2 * k) ≤ 13506) (h : pL_holds_399 S.1  k y2 y4 y5 y6 y7 y8 y9 = some res), V p l e (headSpec wsM_holds rmL_holds).room s m args below meth c9 g 13 cells slots (MQ below (QE g A9 res (WP cy A T S)) args s 2251 13506 A9) A9 A9 (WO cy A S H) 399 [(0, .ref A.1), (2, .int y2), (4, .int y4), (5, .int y5), (6, .int y6), (7, .int y7), (8, .int y8), (9, .int y9)] [] := by
  intro  k
  induction k with
  | zero =>
    intro y2 y4 y5 y6 y7 y8 y9 H t cells slots hI ht hc hs h
    have h : (none : Option _) = some res := h
    cases h
  | succ k ih =>
    intro y2 y4 y5 y6 y7 y8 y9 H t cells slots hI ht hc hs h
    rw [pL_holds_399_s] at h
    refine v_iload hC dL_holds_399 7 rfl rfl ?_
    refine v_iload_n hC dL_holds_401 rfl 1 rfl rfl ?_
    refine v_icmp_ge hC (tgt := 483) dL_holds_402 (by decide) rfl (fun c => ?_) (fun c => ?_)
    · have h := ite_t c h
      exact v_sub [0, 2, 3, 4, 5, 6] (lv' := [(0, .ref A.1), (4, .int y4), (5, .int y5), (6, .int y6), (7, .int y7), (8, .int y8)]) rfl (bL_holds_483 hC hr hX hT9  _ _ _ _ _ _ _ _ _ hI (by omega) (by omega) (by omega) h)
    · have h := ite_f c h
      refine v_iload hC dL_holds_405 4 rfl rfl ?_
      refine v_if_eq hC (tgt := 483) dL_holds_407 (by decide) rfl (fun c => ?_) (fun c => ?_)
      · have h := ite_t c h
        exact v_sub [0, 2, 3, 4, 5, 6] (lv' := [(0, .ref A.1), (4, .int y4), (5, .int y5), (6, .int y6), (7, .int y7), (8, .int y8)]) rfl (bL_holds_483 hC hr hX hT9  _ _ _ _ _ _ _ _ _ hI (by omega) (by omega) (by omega) h)
      · have h := ite_f c h
        refine v_aload_n hC dL_holds_410 rfl 0 rfl rfl ?_
        refine v_bipush hC (v := (nI 12)) dL_holds_411 (by decide) rfl ?_
        refine v_iload hC dL_holds_413 5 rfl rfl ?_
        refine v_iload hC dL_holds_415 7 rfl rfl ?_
        refine v_iconst hC (v := (nI 0)) dL_holds_417 (by decide) rfl ?_
        refine l_callF hC hX (n := 5) (As := [.ref A.1, .int (nI 12), .int y7, .int y9, .int (nI 0)]) (st := []) (fun w => w) (fun sz => mC_Why l hX.1 g cy tt sa sz A y7 y9 (nI 0) hI (by omega)) (WR.full rfl) (fun w9 h9 => WR.full (WP_fst h9)) (goodIn_w gM_call) rfl rfl rfl (by decide +kernel) ⟨Nat.le_of_ble_eq_true rfl, Nat.le_of_ble_eq_true rfl⟩ rfl (Nat.le_of_ble_eq_true rfl) rfl ⟨by show _ + 2 ≤ 2251; omega, by show _ + 12 ≤ 13506; omega⟩ dL_holds_418 rfl (fun w9 h9 => ?_)
        obtain ⟨H1, hI2, rfl⟩ := h9
        refine v_eqw (ws' := WO cy A S H1) rfl ?_
        refine v_istore hC dL_holds_421 (by decide) [(10, .int (aWh S.1 y7 y9)), (0, .ref A.1), (2, .int y2), (4, .int y4), (5, .int y5), (6, .int y6), (7, .int y7), (8, .int y8), (9, .int y9)] rfl rfl ?_
        refine v_iload hC dL_holds_423 0 rfl rfl ?_
        refine v_if_ne hC (tgt := 432) dL_holds_425 (by decide) rfl (fun c => ?_) (fun c => ?_)
        · have h := ite_f c h
          refine v_iconst hC (v := (nI 0)) dL_holds_432 (by decide) rfl ?_
          exact v_sub [1, 2, 3, 4, 6, 7, 8, 0] (lv' := [(0, .ref A.1), (2, .int y2), (4, .int y4), (5, .int y5), (7, .int y7), (8, .int y8), (9, .int y9), (10, .int (aWh S.1 y7 y9))]) rfl (bL_holds_433 hC hr hX hT9 _ k ih _ _ _ _ _ _ _ _ _ _ _ _ hI2 (by omega) (by omega) (by omega) h)
        · have h := ite_t c h
          refine v_iconst hC (v := (nI 1)) dL_holds_428 (by decide) rfl ?_
          refine v_goto hC (tgt := 433) dL_holds_429 (by decide) ?_
          exact v_sub [1, 2, 3, 4, 6, 7, 8, 0] (lv' := [(0, .ref A.1), (2, .int y2), (4, .int y4), (5, .int y5), (7, .int y7), (8, .int y8), (9, .int y9), (10, .int (aWh S.1 y7 y9))]) rfl (bL_holds_433 hC hr hX hT9 _ k ih _ _ _ _ _ _ _ _ _ _ _ _ hI2 (by omega) (by omega) (by omega) h)
set_option maxHeartbeats 4000000 in
set_option maxRecDepth 100000 in
theorem bL_holds_304 {p : Program} {l : Launch} {e : Env} {s : State} {m : MethodId} {args : Array Value} {below : List Frame} {meth : Method} {c9 : Code} {g : va_G} {cy : Nat → ClassId} {tt sa : Nat → Nat} {A9 : Nat → Prop} (hC : CX p s m args meth c9 g cy 13 cL_holds wsM_holds RL) (hr : meth.sig.returnType = some .boolean) (hX : XL l s tt sa A9) {A : AA} {T : Nat} (hT9 : T < 8000) {S : SS} {res : Int32} : ∀  (k : Nat) (y1 : Int32) (y2 : Int32) (y3 : Int32) (y4 : Int32) (y5 : Int32) (y6 : Int32) (y7 : Int32) (H : HH) (t cells slots : Nat) (hI : RP t S H) (ht : t + 0 ≤ T) (hc : cells + (153 + 8 * k) ≤ 2251) (hs : slots + 6 * (153 + 8 * k) ≤ 13506) (h : pL_holds_304 S.1  k y1 y2 y3 y4 y5 y6 y7 = some res), V p l e (headSpec wsM_holds rmL_holds).room s m args below meth c9 g 13 cells slots (MQ below (QE g A9 res (WP cy A T S)) args s 2251 13506 A9) A9 A9 (WO cy A S H) 304 [(0, .ref A.1), (1, .int y1), (2, .int y2), (3, .int y3), (4, .int y4), (5, .int y5), (6, .int y6), (7, .int y7)] [] := by
  intro  k
  induction k with
  | zero =>
    intro y1 y2 y3 y4 y5 y6 y7 H t cells slots hI ht hc hs h
    have h : (none : Option _) = some res := h
    cases h
  | succ k ih =>
    intro y1 y2 y3 y4 y5 y6 y7 H t cells slots hI ht hc hs h
    rw [pL_holds_304_s] at h
    refine v_iload hC dL_holds_304 7 rfl rfl ?_
    refine v_iload_n hC dL_holds_306 rfl 2 rfl rfl ?_
    refine v_icmp_ge hC (tgt := 379) dL_holds_307 (by decide) rfl (fun c => ?_) (fun c => ?_)
    · have h := ite_t c h
      refine v_iload_n hC dL_holds_379 rfl 1 rfl rfl ?_
      refine v_iload_n hC dL_holds_380 rfl 3 rfl rfl ?_
      obtain ⟨hn, h⟩ := ite_g h
      refine v_irem hC dL_holds_381 hn rfl ?_
      refine v_istore hC dL_holds_382 (by decide) [(7, .int (y1 - y1 / y3 * y3)), (0, .ref A.1), (1, .int y1), (2, .int y2), (3, .int y3), (4, .int y4), (5, .int y5), (6, .int y6)] rfl rfl ?_
      refine v_aload_n hC dL_holds_384 rfl 1 rfl rfl ?_
      refine v_bipush hC (v := (nI 11)) dL_holds_385 (by decide) rfl ?_
      refine v_iload hC dL_holds_387 0 rfl rfl ?_
      refine v_iconst hC (v := (nI 0)) dL_holds_389 (by decide) rfl ?_
      refine v_iconst hC (v := (nI 0)) dL_holds_390 (by decide) rfl ?_
      refine l_callF hC hX (n := 5) (As := [.ref A.1, .int (nI 11), .int (y1 - y1 / y3 * y3), .int (nI 0), .int (nI 0)]) (st := []) (fun w => w) (fun sz => mC_Would l hX.1 g cy tt sa sz A (y1 - y1 / y3 * y3) (nI 0) (nI 0) hI (by omega)) (WR.full rfl) (fun w9 h9 => WR.full (WP_fst h9)) (goodIn_w gM_call) rfl rfl rfl (by decide +kernel) ⟨Nat.le_of_ble_eq_true rfl, Nat.le_of_ble_eq_true rfl⟩ rfl (Nat.le_of_ble_eq_true rfl) rfl ⟨by show _ + 2 ≤ 2251; omega, by show _ + 12 ≤ 13506; omega⟩ dL_holds_391 rfl (fun w9 h9 => ?_)
      obtain ⟨H1, hI2, rfl⟩ := h9
      refine v_eqw (ws' := WO cy A S H1) rfl ?_
      refine v_istore hC dL_holds_394 (by decide) [(8, .int (aWo S.1 (y1 - y1 / y3 * y3) (nI 0))), (7, .int (y1 - y1 / y3 * y3)), (0, .ref A.1), (1, .int y1), (2, .int y2), (3, .int y3), (4, .int y4), (5, .int y5), (6, .int y6)] rfl rfl ?_
      refine v_iconst hC (v := (nI 0)) dL_holds_396 (by decide) rfl ?_
      refine v_istore hC dL_holds_397 (by decide) [(9, .int (nI 0)), (8, .int (aWo S.1 (y1 - y1 / y3 * y3) (nI 0))), (7, .int (y1 - y1 / y3 * y3)), (0, .ref A.1), (1, .int y1), (2, .int y2), (3, .int y3), (4, .int y4), (5, .int y5), (6, .int y6)] rfl rfl ?_
      exact v_sub [3, 5, 7, 8, 9, 2, 1, 0] (lv' := [(0, .ref A.1), (2, .int y2), (4, .int y4), (5, .int y5), (6, .int y6), (7, .int (y1 - y1 / y3 * y3)), (8, .int (aWo S.1 (y1 - y1 / y3 * y3) (nI 0))), (9, .int (nI 0))]) rfl (bL_holds_399 hC hr hX hT9  16 _ _ _ _ _ _ _ _ _ _ _ hI2 (by omega) (by omega) (by omega) h)
    · have h := ite_f c h
      refine v_iload hC dL_holds_310 5 rfl rfl ?_
      refine v_aload_n hC dL_holds_312 rfl 0 rfl rfl ?_
      refine v_iconst hC (v := (nI 3)) dL_holds_313 (by decide) rfl ?_
      refine v_iload hC dL_holds_314 7 rfl rfl ?_
      refine v_bipush hC (v := (nI 6)) dL_holds_316 (by decide) rfl ?_
      refine v_iconst hC (v := (nI 0)) dL_holds_318 (by decide) rfl ?_
      refine l_callF hC hX (n := 5) (As := [.ref A.1, .int (nI 3), .int y7, .int (nI 6), .int (nI 0)]) (st := [.int y5]) (fun w => w) (fun sz => mC_Extra l hX.1 g cy tt sa sz A y7 (nI 6) (nI 0) hI (by omega)) (WR.full rfl) (fun w9 h9 => WR.full (WP_fst h9)) (goodIn_w gM_call) rfl rfl rfl (by decide +kernel) ⟨Nat.le_of_ble_eq_true rfl, Nat.le_of_ble_eq_true rfl⟩ rfl (Nat.le_of_ble_eq_true rfl) rfl ⟨by show _ + 2 ≤ 2251; omega, by show _ + 12 ≤ 13506; omega⟩ dL_holds_319 rfl (fun w9 h9 => ?_)
      obtain ⟨H3, hI4, rfl⟩ := h9
      refine v_eqw (ws' := WO cy A S H3) rfl ?_
      refine v_iadd hC dL_holds_322 rfl ?_
      refine v_istore hC dL_holds_323 (by decide) [(5, .int (y5 + (aEx S.1 y7 (nI 6)))), (0, .ref A.1), (1, .int y1), (2, .int y2), (3, .int y3), (4, .int y4), (6, .int y6), (7, .int y7)] rfl rfl ?_
      refine v_iload hC dL_holds_325 6 rfl rfl ?_
      refine v_if_eq hC (tgt := 370) dL_holds_327 (by decide) rfl (fun c => ?_) (fun c => ?_)
      · have h := ite_t c h
        exact v_sub [1, 2, 3, 4, 5, 0, 7] (lv' := [(0, .ref A.1), (1, .int y1), (2, .int y2), (3, .int y3), (4, .int y4), (5, .int (y5 + (aEx S.1 y7 (nI 6)))), (7, .int y7)]) rfl (bL_holds_370 hC hr hX hT9 _ k ih _ _ _ _ _ _ _ _ _ _ hI4 (by omega) (by omega) (by omega) h)
      · have h := ite_f c h
        refine v_aload_n hC dL_holds_330 rfl 1 rfl rfl ?_
        refine v_iconst hC (v := (nI 3)) dL_holds_331 (by decide) rfl ?_
        refine v_iload hC dL_holds_332 7 rfl rfl ?_
        refine v_iconst hC (v := (nI 2)) dL_holds_334 (by decide) rfl ?_
        refine v_iconst hC (v := (nI 0)) dL_holds_335 (by decide) rfl ?_
        refine l_callF hC hX (n := 5) (As := [.ref A.1, .int (nI 3), .int y7, .int (nI 2), .int (nI 0)]) (st := []) (fun w => w) (fun sz => mC_Extra l hX.1 g cy tt sa sz A y7 (nI 2) (nI 0) hI4 (by omega)) (WR.full rfl) (fun w9 h9 => WR.full (WP_fst h9)) (goodIn_w gM_call) rfl rfl rfl (by decide +kernel) ⟨Nat.le_of_ble_eq_true rfl, Nat.le_of_ble_eq_true rfl⟩ rfl (Nat.le_of_ble_eq_true rfl) rfl ⟨by show _ + 2 ≤ 2251; omega, by show _ + 12 ≤ 13506; omega⟩ dL_holds_336 rfl (fun w9 h9 => ?_)
        obtain ⟨H5, hI6, rfl⟩ := h9
        refine v_eqw (ws' := WO cy A S H5) rfl ?_
        refine v_aload_n hC dL_holds_339 rfl 1 rfl rfl ?_
        refine v_iconst hC (v := (nI 3)) dL_holds_340 (by decide) rfl ?_
        refine v_iload hC dL_holds_341 7 rfl rfl ?_
        refine v_iconst hC (v := (nI 3)) dL_holds_343 (by decide) rfl ?_
        refine v_iconst hC (v := (nI 0)) dL_holds_344 (by decide) rfl ?_
        refine l_callF hC hX (n := 5) (As := [.ref A.1, .int (nI 3), .int y7, .int (nI 3), .int (nI 0)]) (st := [.int (aEx S.1 y7 (nI 2))]) (fun w => w) (fun sz => mC_Extra l hX.1 g cy tt sa sz A y7 (nI 3) (nI 0) hI6 (by omega)) (WR.full rfl) (fun w9 h9 => WR.full (WP_fst h9)) (goodIn_w gM_call) rfl rfl rfl (by decide +kernel) ⟨Nat.le_of_ble_eq_true rfl, Nat.le_of_ble_eq_true rfl⟩ rfl (Nat.le_of_ble_eq_true rfl) rfl ⟨by show _ + 2 ≤ 2251; omega, by show _ + 12 ≤ 13506; omega⟩ dL_holds_345 rfl (fun w9 h9 => ?_)
        obtain ⟨H7, hI8, rfl⟩ := h9
        refine v_eqw (ws' := WO cy A S H7) rfl ?_
        refine v_icmp_lt hC (tgt := 370) dL_holds_348 (by decide) rfl (fun c => ?_) (fun c => ?_)
        · have h := ite_t c h
          exact v_sub [1, 2, 3, 4, 5, 0, 7] (lv' := [(0, .ref A.1), (1, .int y1), (2, .int y2), (3, .int y3), (4, .int y4), (5, .int (y5 + (aEx S.1 y7 (nI 6)))), (7, .int y7)]) rfl (bL_holds_370 hC hr hX hT9 _ k ih _ _ _ _ _ _ _ _ _ _ hI8 (by omega) (by omega) (by omega) h)
        · have h := ite_f c h
          refine v_aload_n hC dL_holds_351 rfl 1 rfl rfl ?_
          refine v_iconst hC (v := (nI 3)) dL_holds_352 (by decide) rfl ?_
          refine v_iload hC dL_holds_353 7 rfl rfl ?_
          refine v_iconst hC (v := (nI 2)) dL_holds_355 (by decide) rfl ?_
          refine v_iconst hC (v := (nI 0)) dL_holds_356 (by decide) rfl ?_
          refine l_callF hC hX (n := 5) (As := [.ref A.1, .int (nI 3), .int y7, .int (nI 2), .int (nI 0)]) (st := []) (fun w => w) (fun sz => mC_Extra l hX.1 g cy tt sa sz A y7 (nI 2) (nI 0) hI8 (by omega)) (WR.full rfl) (fun w9 h9 => WR.full (WP_fst h9)) (goodIn_w gM_call) rfl rfl rfl (by decide +kernel) ⟨Nat.le_of_ble_eq_true rfl, Nat.le_of_ble_eq_true rfl⟩ rfl (Nat.le_of_ble_eq_true rfl) rfl ⟨by show _ + 2 ≤ 2251; omega, by show _ + 12 ≤ 13506; omega⟩ dL_holds_357 rfl (fun w9 h9 => ?_)
          obtain ⟨H9, hI10, rfl⟩ := h9
          refine v_eqw (ws' := WO cy A S H9) rfl ?_
          refine v_sipush hC (v := (nI 960)) dL_holds_360 (by decide) rfl ?_
          refine v_icmp_gt hC (tgt := 370) dL_holds_363 (by decide) rfl (fun c => ?_) (fun c => ?_)
          · have h := ite_t c h
            exact v_sub [1, 2, 3, 4, 5, 0, 7] (lv' := [(0, .ref A.1), (1, .int y1), (2, .int y2), (3, .int y3), (4, .int y4), (5, .int (y5 + (aEx S.1 y7 (nI 6)))), (7, .int y7)]) rfl (bL_holds_370 hC hr hX hT9 _ k ih _ _ _ _ _ _ _ _ _ _ hI10 (by omega) (by omega) (by omega) h)
          · have h := ite_f c h
            refine v_iconst hC (v := (nI 1)) dL_holds_366 (by decide) rfl ?_
            refine v_goto hC (tgt := 371) dL_holds_367 (by decide) ?_
            exact v_sub [1, 2, 3, 4, 5, 0, 7] (lv' := [(0, .ref A.1), (1, .int y1), (2, .int y2), (3, .int y3), (4, .int y4), (5, .int (y5 + (aEx S.1 y7 (nI 6)))), (7, .int y7)]) rfl (bL_holds_371 hC hr hX hT9 _ k ih _ _ _ _ _ _ _ _ _ _ _ hI10 (by omega) (by omega) (by omega) h)
set_option maxHeartbeats 4000000 in
set_option maxRecDepth 100000 in
theorem bL_holds_301 {p : Program} {l : Launch} {e : Env} {s : State} {m : MethodId} {args : Array Value} {below : List Frame} {meth : Method} {c9 : Code} {g : va_G} {cy : Nat → ClassId} {tt sa : Nat → Nat} {A9 : Nat → Prop} (hC : CX p s m args meth c9 g cy 13 cL_holds wsM_holds RL) (hr : meth.sig.returnType = some .boolean) (hX : XL l s tt sa A9) {A : AA} {T : Nat} (hT9 : T < 8000) {S : SS} {res : Int32} : ∀  (y1 : Int32) (y2 : Int32) (y3 : Int32) (y4 : Int32) (y5 : Int32) (y6 : Int32) (H : HH) (t cells slots : Nat) (hI : RP t S H) (ht : t + 0 ≤ T) (hc : cells + 281 ≤ 2251) (hs : slots + 6 * 281 ≤ 13506) (h : pL_holds_301 S.1  y1 y2 y3 y4 y5 y6 = some res), V p l e (headSpec wsM_holds rmL_holds).room s m args below meth c9 g 13 cells slots (MQ below (QE g A9 res (WP cy A T S)) args s 2251 13506 A9) A9 A9 (WO cy A S H) 301 [(0, .ref A.1), (1, .int y1), (2, .int y2), (3, .int y3), (4, .int y4), (5, .int y5), (6, .int y6)] [] := by
  intro  y1 y2 y3 y4 y5 y6 H t cells slots hI ht hc hs h
  unfold pL_holds_301 at h
  refine v_iconst hC (v := (nI 0)) dL_holds_301 (by decide) rfl ?_
  refine v_istore hC dL_holds_302 (by decide) [(7, .int (nI 0)), (0, .ref A.1), (1, .int y1), (2, .int y2), (3, .int y3), (4, .int y4), (5, .int y5), (6, .int y6)] rfl rfl ?_
  exact v_sub [1, 2, 3, 4, 5, 6, 7, 0] (lv' := [(0, .ref A.1), (1, .int y1), (2, .int y2), (3, .int y3), (4, .int y4), (5, .int y5), (6, .int y6), (7, .int (nI 0))]) rfl (bL_holds_304 hC hr hX hT9  16 _ _ _ _ _ _ _ _ _ _ _ hI (by omega) (by omega) (by omega) h)
set_option maxHeartbeats 4000000 in
set_option maxRecDepth 100000 in
theorem bL_holds_46 {p : Program} {l : Launch} {e : Env} {s : State} {m : MethodId} {args : Array Value} {below : List Frame} {meth : Method} {c9 : Code} {g : va_G} {cy : Nat → ClassId} {tt sa : Nat → Nat} {A9 : Nat → Prop} (hC : CX p s m args meth c9 g cy 13 cL_holds wsM_holds RL) (hr : meth.sig.returnType = some .boolean) (hX : XL l s tt sa A9) {A : AA} {T : Nat} (hT9 : T < 8000) {S : SS} {res : Int32} : ∀  (k : Nat) (y1 : Int32) (y2 : Int32) (y3 : Int32) (y4 : Int32) (y5 : Int32) (y6 : Int32) (y7 : Int32) (H : HH) (t cells slots : Nat) (hI : RP t S H) (ht : t + 0 ≤ T) (hc : cells + (281 + 123 * k) ≤ 2251) (hs : slots + 6 * (281 + 123 * k) ≤ 13506) (h : pL_holds_46 S.1  k y1 y2 y3 y4 y5 y6 y7 = some res), V p l e (headSpec wsM_holds rmL_holds).room s m args below meth c9 g 13 cells slots (MQ below (QE g A9 res (WP cy A T S)) args s 2251 13506 A9) A9 A9 (WO cy A S H) 46 [(0, .ref A.1), (1, .int y1), (2, .int y2), (3, .int y3), (4, .int y4), (5, .int y5), (6, .int y6), (7, .int y7)] [] := by
  intro  k
  induction k with
  | zero =>
    intro y1 y2 y3 y4 y5 y6 y7 H t cells slots hI ht hc hs h
    have h : (none : Option _) = some res := h
    cases h
  | succ k ih =>
    intro y1 y2 y3 y4 y5 y6 y7 H t cells slots hI ht hc hs h
    rw [pL_holds_46_s] at h
    refine v_iload hC dL_holds_46 7 rfl rfl ?_
    refine v_iload_n hC dL_holds_48 rfl 3 rfl rfl ?_
    refine v_icmp_ge hC (tgt := 301) dL_holds_49 (by decide) rfl (fun c => ?_) (fun c => ?_)
    · have h := ite_t c h
      exact v_sub [0, 1, 2, 3, 4, 5, 6] (lv' := [(0, .ref A.1), (1, .int y1), (2, .int y2), (3, .int y3), (4, .int y4), (5, .int y5), (6, .int y6)]) rfl (bL_holds_301 hC hr hX hT9  _ _ _ _ _ _ _ _ _ _ hI (by omega) (by omega) (by omega) h)
    · have h := ite_f c h
      refine v_iload hC dL_holds_52 6 rfl rfl ?_
      refine v_if_eq hC (tgt := 301) dL_holds_54 (by decide) rfl (fun c => ?_) (fun c => ?_)
      · have h := ite_t c h
        exact v_sub [0, 1, 2, 3, 4, 5, 6] (lv' := [(0, .ref A.1), (1, .int y1), (2, .int y2), (3, .int y3), (4, .int y4), (5, .int y5), (6, .int y6)]) rfl (bL_holds_301 hC hr hX hT9  _ _ _ _ _ _ _ _ _ _ hI (by omega) (by omega) (by omega) h)
      · have h := ite_f c h
        refine v_aload_n hC dL_holds_57 rfl 0 rfl rfl ?_
        refine v_iconst hC (v := (nI 4)) dL_holds_58 (by decide) rfl ?_
        refine v_iload hC dL_holds_59 7 rfl rfl ?_
        refine v_bipush hC (v := (nI 6)) dL_holds_61 (by decide) rfl ?_
        refine v_iconst hC (v := (nI 0)) dL_holds_63 (by decide) rfl ?_
        refine l_callF hC hX (n := 5) (As := [.ref A.1, .int (nI 4), .int y7, .int (nI 6), .int (nI 0)]) (st := []) (fun w => w) (fun sz => mC_Scene l hX.1 g cy tt sa sz A y7 (nI 6) (nI 0) hI (by omega)) (WR.full rfl) (fun w9 h9 => WR.full (WP_fst h9)) (goodIn_w gM_call) rfl rfl rfl (by decide +kernel) ⟨Nat.le_of_ble_eq_true rfl, Nat.le_of_ble_eq_true rfl⟩ rfl (Nat.le_of_ble_eq_true rfl) rfl ⟨by show _ + 2 ≤ 2251; omega, by show _ + 12 ≤ 13506; omega⟩ dL_holds_64 rfl (fun w9 h9 => ?_)
        obtain ⟨H1, hI2, rfl⟩ := h9
        refine v_eqw (ws' := WO cy A S H1) rfl ?_
        refine v_istore hC dL_holds_67 (by decide) [(8, .int (aSc S.1 y7 (nI 6))), (0, .ref A.1), (1, .int y1), (2, .int y2), (3, .int y3), (4, .int y4), (5, .int y5), (6, .int y6), (7, .int y7)] rfl rfl ?_
        refine v_aload_n hC dL_holds_69 rfl 1 rfl rfl ?_
        refine v_iload hC dL_holds_70 0 rfl rfl ?_
        obtain ⟨v3, hv3, h⟩ := bind_g h
        refine l_callF hC hX (n := 2) (As := [.ref A.1, .int (aSc S.1 y7 (nI 6))]) (st := []) (fun w => w) (fun sz => mL_facesOf l hX.1 g cy tt sa sz A (aSc S.1 y7 (nI 6)) hI2 (by omega) hv3) (WR.full rfl) (fun w9 h9 => WR.full (WP_fst h9)) (goodIn_w gM_facesOf) rfl rfl rfl (by decide +kernel) ⟨Nat.le_of_ble_eq_true rfl, Nat.le_of_ble_eq_true rfl⟩ rfl (Nat.le_of_ble_eq_true rfl) rfl ⟨by show _ + 49 ≤ 2251; omega, by show _ + 294 ≤ 13506; omega⟩ dL_holds_72 rfl (fun w9 h9 => ?_)
        obtain ⟨H4, hI5, rfl⟩ := h9
        refine v_eqw (ws' := WO cy A S H4) rfl ?_
        refine v_istore hC dL_holds_75 (by decide) [(9, .int v3), (8, .int (aSc S.1 y7 (nI 6))), (0, .ref A.1), (1, .int y1), (2, .int y2), (3, .int y3), (4, .int y4), (5, .int y5), (6, .int y6), (7, .int y7)] rfl rfl ?_
        refine v_aload_n hC dL_holds_77 rfl 2 rfl rfl ?_
        refine v_iconst hC (v := (nI 4)) dL_holds_78 (by decide) rfl ?_
        refine v_iload hC dL_holds_79 9 rfl rfl ?_
        refine v_iconst hC (v := (nI 5)) dL_holds_81 (by decide) rfl ?_
        refine v_iconst hC (v := (nI 0)) dL_holds_82 (by decide) rfl ?_
        refine l_callF hC hX (n := 5) (As := [.ref A.1, .int (nI 4), .int y7, .int (nI 5), .int (nI 0)]) (st := []) (fun w => w) (fun sz => mC_Scene l hX.1 g cy tt sa sz A y7 (nI 5) (nI 0) hI5 (by omega)) (WR.full rfl) (fun w9 h9 => WR.full (WP_fst h9)) (goodIn_w gM_call) rfl rfl rfl (by decide +kernel) ⟨Nat.le_of_ble_eq_true rfl, Nat.le_of_ble_eq_true rfl⟩ rfl (Nat.le_of_ble_eq_true rfl) rfl ⟨by show _ + 2 ≤ 2251; omega, by show _ + 12 ≤ 13506; omega⟩ dL_holds_83 rfl (fun w9 h9 => ?_)
        obtain ⟨H6, hI7, rfl⟩ := h9
        refine v_eqw (ws' := WO cy A S H6) rfl ?_
        refine v_iconst hC (v := (nI 1)) dL_holds_86 (by decide) rfl ?_
        refine v_icmp_ne hC (tgt := 94) dL_holds_87 (by decide) rfl (fun c => ?_) (fun c => ?_)
        · have h := ite_f c h
          refine v_iconst hC (v := (nI 0)) dL_holds_94 (by decide) rfl ?_
          exact v_sub [2, 3, 4, 5, 6, 7, 9, 1, 0] (lv' := [(0, .ref A.1), (1, .int y1), (2, .int y2), (3, .int y3), (4, .int y4), (5, .int y5), (7, .int y7), (8, .int (aSc S.1 y7 (nI 6))), (9, .int v3)]) rfl (bL_holds_95 hC hr hX hT9 _ k ih _ _ _ _ _ _ _ _ _ _ _ _ _ hI7 (by omega) (by omega) (by omega) h)
        · have h := ite_t c h
          refine v_iconst hC (v := (nI 1)) dL_holds_90 (by decide) rfl ?_
          refine v_goto hC (tgt := 95) dL_holds_91 (by decide) ?_
          exact v_sub [2, 3, 4, 5, 6, 7, 9, 1, 0] (lv' := [(0, .ref A.1), (1, .int y1), (2, .int y2), (3, .int y3), (4, .int y4), (5, .int y5), (7, .int y7), (8, .int (aSc S.1 y7 (nI 6))), (9, .int v3)]) rfl (bL_holds_95 hC hr hX hT9 _ k ih _ _ _ _ _ _ _ _ _ _ _ _ _ hI7 (by omega) (by omega) (by omega) h)
set_option maxHeartbeats 4000000 in
set_option maxRecDepth 100000 in
theorem bL_holds_41 {p : Program} {l : Launch} {e : Env} {s : State} {m : MethodId} {args : Array Value} {below : List Frame} {meth : Method} {c9 : Code} {g : va_G} {cy : Nat → ClassId} {tt sa : Nat → Nat} {A9 : Nat → Prop} (hC : CX p s m args meth c9 g cy 13 cL_holds wsM_holds RL) (hr : meth.sig.returnType = some .boolean) (hX : XL l s tt sa A9) {A : AA} {T : Nat} (hT9 : T < 8000) {S : SS} {res : Int32} : ∀  (y1 : Int32) (y2 : Int32) (y3 : Int32) (y4 : Int32) (y5 : Int32) (s0 : Int32) (H : HH) (t cells slots : Nat) (hI : RP t S H) (ht : t + 0 ≤ T) (hc : cells + 2249 ≤ 2251) (hs : slots + 6 * 2249 ≤ 13506) (h : pL_holds_41 S.1  y1 y2 y3 y4 y5 s0 = some res), V p l e (headSpec wsM_holds rmL_holds).room s m args below meth c9 g 13 cells slots (MQ below (QE g A9 res (WP cy A T S)) args s 2251 13506 A9) A9 A9 (WO cy A S H) 41 [(0, .ref A.1), (1, .int y1), (2, .int y2), (3, .int y3), (4, .int y4), (5, .int y5)] [.int s0] := by
  intro  y1 y2 y3 y4 y5 s0 H t cells slots hI ht hc hs h
  unfold pL_holds_41 at h
  refine v_istore hC dL_holds_41 (by decide) [(6, .int s0), (0, .ref A.1), (1, .int y1), (2, .int y2), (3, .int y3), (4, .int y4), (5, .int y5)] rfl rfl ?_
  refine v_iconst hC (v := (nI 0)) dL_holds_43 (by decide) rfl ?_
  refine v_istore hC dL_holds_44 (by decide) [(7, .int (nI 0)), (6, .int s0), (0, .ref A.1), (1, .int y1), (2, .int y2), (3, .int y3), (4, .int y4), (5, .int y5)] rfl rfl ?_
  exact v_sub [2, 3, 4, 5, 6, 7, 1, 0] (lv' := [(0, .ref A.1), (1, .int y1), (2, .int y2), (3, .int y3), (4, .int y4), (5, .int y5), (6, .int s0), (7, .int (nI 0))]) rfl (bL_holds_46 hC hr hX hT9  16 _ _ _ _ _ _ _ _ _ _ _ hI (by omega) (by omega) (by omega) h)
set_option maxHeartbeats 4000000 in
set_option maxRecDepth 100000 in
theorem bL_holds_40 {p : Program} {l : Launch} {e : Env} {s : State} {m : MethodId} {args : Array Value} {below : List Frame} {meth : Method} {c9 : Code} {g : va_G} {cy : Nat → ClassId} {tt sa : Nat → Nat} {A9 : Nat → Prop} (hC : CX p s m args meth c9 g cy 13 cL_holds wsM_holds RL) (hr : meth.sig.returnType = some .boolean) (hX : XL l s tt sa A9) {A : AA} {T : Nat} (hT9 : T < 8000) {S : SS} {res : Int32} : ∀  (y1 : Int32) (y2 : Int32) (y3 : Int32) (y4 : Int32) (y5 : Int32) (H : HH) (t cells slots : Nat) (hI : RP t S H) (ht : t + 0 ≤ T) (hc : cells + 2249 ≤ 2251) (hs : slots + 6 * 2249 ≤ 13506) (h : pL_holds_40 S.1  y1 y2 y3 y4 y5 = some res), V p l e (headSpec wsM_holds rmL_holds).room s m args below meth c9 g 13 cells slots (MQ below (QE g A9 res (WP cy A T S)) args s 2251 13506 A9) A9 A9 (WO cy A S H) 40 [(0, .ref A.1), (1, .int y1), (2, .int y2), (3, .int y3), (4, .int y4), (5, .int y5)] [] := by
  intro  y1 y2 y3 y4 y5 H t cells slots hI ht hc hs h
  unfold pL_holds_40 at h
  refine v_iconst hC (v := (nI 0)) dL_holds_40 (by decide) rfl ?_
  exact bL_holds_41 hC hr hX hT9  _ _ _ _ _ _ _ _ _ _ hI (by omega) (by omega) (by omega) h
set_option maxHeartbeats 4000000 in
set_option maxRecDepth 100000 in
theorem mL_holds (l : Launch) (hlst : l.stackTraces = false) (g : va_G) (cy : Nat → ClassId) (tt sa : Nat → Nat) (sz : Nat) (A : AA) {t : Nat} {S : SS} {H : HH} (x1 : Int32) (hI : RP t S H) (ht9 : t < 8000) {res : Int32} (h : pL_holds S.1 x1 = some res) : Met l yL_holds wsM_holds rmL_holds (PN [.ref A.1, .int x1] g cy tt sa sz (WO cy A S H)) (QE g (va_A (WO cy A S H) sz) res (WP cy A t S)) 2251 13506 (va_A (WO cy A S H) sz) := by
  obtain ⟨T, hTe⟩ : ∃ T, T = t := ⟨_, rfl⟩
  have hT9 : T < 8000 := by omega
  have ht : t + 0 ≤ T := by omega
  rw [← hTe]
  refine m_ofVN (cc := cL_holds) (nL := 13) (ret := some .boolean) hlst RL rfl (by decide) rfl [(0, .ref A.1), (1, .int x1)] rfl (Nat.le_of_ble_eq_true rfl) ?_
  intro p e s m args below meth c9 hC hr hX
  generalize (va_A (WO cy A S H) sz) = A9 at hX ⊢
  obtain ⟨cells, hce⟩ : ∃ cells, cells = 0 := ⟨_, rfl⟩
  obtain ⟨slots, hse⟩ : ∃ slots, slots = 0 := ⟨_, rfl⟩
  have hc : cells + 2251 ≤ 2251 := by omega
  have hs : slots + 6 * 2251 ≤ 13506 := by omega
  refine v_widen (k := cells) (n := slots) (by omega) (by omega) ?_
  unfold pL_holds at h
  refine v_aload_n hC dL_holds_0 rfl 0 rfl rfl ?_
  refine v_iconst hC (v := (nI 2)) dL_holds_1 (by decide) rfl ?_
  refine v_iconst hC (v := (nI 0)) dL_holds_2 (by decide) rfl ?_
  refine v_iconst hC (v := (nI 0)) dL_holds_3 (by decide) rfl ?_
  refine v_iconst hC (v := (nI 0)) dL_holds_4 (by decide) rfl ?_
  refine l_callF hC hX (n := 5) (As := [.ref A.1, .int (nI 2), .int (nI 0), .int (nI 0), .int (nI 0)]) (st := []) (fun w => w) (fun sz => mC_About l hX.1 g cy tt sa sz A (nI 0) (nI 0) (nI 0) hI (by omega)) (WR.full rfl) (fun w9 h9 => WR.full (WP_fst h9)) (goodIn_w gM_call) rfl rfl rfl (by decide +kernel) ⟨Nat.le_of_ble_eq_true rfl, Nat.le_of_ble_eq_true rfl⟩ rfl (Nat.le_of_ble_eq_true rfl) rfl ⟨by show _ + 1 ≤ 2251; omega, by show _ + 6 ≤ 13506; omega⟩ dL_holds_5 rfl (fun w9 h9 => ?_)
  obtain ⟨H1, hI2, rfl⟩ := h9
  refine v_eqw (ws' := WO cy A S H1) rfl ?_
  refine v_istore_n hC dL_holds_8 rfl (by decide) [(2, .int (aAb S.1 (nI 0))), (0, .ref A.1), (1, .int x1)] rfl rfl ?_
  refine v_aload_n hC dL_holds_9 rfl 1 rfl rfl ?_
  refine v_iconst hC (v := (nI 2)) dL_holds_10 (by decide) rfl ?_
  refine v_iconst hC (v := (nI 1)) dL_holds_11 (by decide) rfl ?_
  refine v_iconst hC (v := (nI 0)) dL_holds_12 (by decide) rfl ?_
  refine v_iconst hC (v := (nI 0)) dL_holds_13 (by decide) rfl ?_
  refine l_callF hC hX (n := 5) (As := [.ref A.1, .int (nI 2), .int (nI 1), .int (nI 0), .int (nI 0)]) (st := []) (fun w => w) (fun sz => mC_About l hX.1 g cy tt sa sz A (nI 1) (nI 0) (nI 0) hI2 (by omega)) (WR.full rfl) (fun w9 h9 => WR.full (WP_fst h9)) (goodIn_w gM_call) rfl rfl rfl (by decide +kernel) ⟨Nat.le_of_ble_eq_true rfl, Nat.le_of_ble_eq_true rfl⟩ rfl (Nat.le_of_ble_eq_true rfl) rfl ⟨by show _ + 1 ≤ 2251; omega, by show _ + 6 ≤ 13506; omega⟩ dL_holds_14 rfl (fun w9 h9 => ?_)
  obtain ⟨H3, hI4, rfl⟩ := h9
  refine v_eqw (ws' := WO cy A S H3) rfl ?_
  refine v_istore_n hC dL_holds_17 rfl (by decide) [(3, .int (aAb S.1 (nI 1))), (2, .int (aAb S.1 (nI 0))), (0, .ref A.1), (1, .int x1)] rfl rfl ?_
  refine v_iconst hC (v := (nI 0)) dL_holds_18 (by decide) rfl ?_
  refine v_istore hC dL_holds_19 (by decide) [(4, .int (nI 0)), (3, .int (aAb S.1 (nI 1))), (2, .int (aAb S.1 (nI 0))), (0, .ref A.1), (1, .int x1)] rfl rfl ?_
  refine v_iconst hC (v := (nI 0)) dL_holds_21 (by decide) rfl ?_
  refine v_istore hC dL_holds_22 (by decide) [(5, .int (nI 0)), (4, .int (nI 0)), (3, .int (aAb S.1 (nI 1))), (2, .int (aAb S.1 (nI 0))), (0, .ref A.1), (1, .int x1)] rfl rfl ?_
  refine v_iload_n hC dL_holds_24 rfl 3 rfl rfl ?_
  refine v_bipush hC (v := (nI 14)) dL_holds_25 (by decide) rfl ?_
  refine v_icmp_gt hC (tgt := 40) dL_holds_27 (by decide) rfl (fun c => ?_) (fun c => ?_)
  · have h := ite_t c h
    exact v_sub [4, 5, 3, 2, 1, 0] (lv' := [(0, .ref A.1), (1, .int x1), (2, .int (aAb S.1 (nI 0))), (3, .int (aAb S.1 (nI 1))), (4, .int (nI 0)), (5, .int (nI 0))]) rfl (bL_holds_40 hC hr hX hT9  _ _ _ _ _ _ _ _ _ hI4 (by omega) (by omega) (by omega) h)
  · have h := ite_f c h
    refine v_iload_n hC dL_holds_30 rfl 2 rfl rfl ?_
    refine v_bipush hC (v := (nI 10)) dL_holds_31 (by decide) rfl ?_
    refine v_icmp_gt hC (tgt := 40) dL_holds_33 (by decide) rfl (fun c => ?_) (fun c => ?_)
    · have h := ite_t c h
      exact v_sub [4, 5, 3, 2, 1, 0] (lv' := [(0, .ref A.1), (1, .int x1), (2, .int (aAb S.1 (nI 0))), (3, .int (aAb S.1 (nI 1))), (4, .int (nI 0)), (5, .int (nI 0))]) rfl (bL_holds_40 hC hr hX hT9  _ _ _ _ _ _ _ _ _ hI4 (by omega) (by omega) (by omega) h)
    · have h := ite_f c h
      refine v_iconst hC (v := (nI 1)) dL_holds_36 (by decide) rfl ?_
      refine v_goto hC (tgt := 41) dL_holds_37 (by decide) ?_
      exact v_sub [4, 5, 3, 2, 1, 0] (lv' := [(0, .ref A.1), (1, .int x1), (2, .int (aAb S.1 (nI 0))), (3, .int (aAb S.1 (nI 1))), (4, .int (nI 0)), (5, .int (nI 0))]) rfl (bL_holds_41 hC hr hX hT9  _ _ _ _ _ _ _ _ _ _ hI4 (by omega) (by omega) (by omega) h)
