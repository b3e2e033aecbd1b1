theorem wpL {G1 G2 : GV} {b L : Nat} {xs : Nat → Int32} {cn sn : Nat} {i : Int32} {Mc Mm : Mem} (hcn : cn ≤ 600000) (hsn : sn ≤ 7302250) (h : ((((nI L) - 6) < i → True) ∧ (¬ ((nI L) - 6) < i → vp_in i L ∧ (((((xs (ix i)) &&& 31)).toInt = 0 → vp_in (i + 1) L ∧ vp_in (i + 2) L ∧ vp_in (i + 3) L ∧ Ci shC G1 mX11_sheet 1 [.ref (G1.2.1 0), .int (xs (ix (i + 1))), .int (xs (ix (i + 2))), .int (xs (ix (i + 3)))] Mc (fun x1 M1 => vp_in (i + 1) L ∧ vp_in (i + 2) L ∧ vp_in (i + 3) L ∧ Ci shM G2 mX12_sheet 2 [.ref (G2.2.1 0), .int (xs (ix (i + 1))), .int (xs (ix (i + 2))), .int (xs (ix (i + 3)))] Mm (fun x2 M2 => (x1 = x2 ∧ VL G1 G2 b L xs cn sn 18 [(0, .ref b), (1, .ref (G1.2.1 0)), (2, .ref (G2.2.1 0)), (3, .int (i + 6))] [] M1 M2)))) ∧ ((((xs (ix i)) &&& 31)).toInt = 1 → vp_in (i + 1) L ∧ vp_in (i + 2) L ∧ vp_in (i + 3) L ∧ Ci shC G1 mX11_set 1 [.ref (G1.2.1 0), .int (xs (ix (i + 1))), .int (xs (ix (i + 2))), .int (xs (ix (i + 3)))] Mc (fun x3 M3 => vp_in (i + 1) L ∧ vp_in (i + 2) L ∧ vp_in (i + 3) L ∧ Ci shM G2 mX12_set 2 [.ref (G2.2.1 0), .int (xs (ix (i + 1))), .int (xs (ix (i + 2))), .int (xs (ix (i + 3)))] Mm (fun x4 M4 => (x3 = x4 ∧ VL G1 G2 b L xs cn sn 18 [(0, .ref b), (1, .ref (G1.2.1 0)), (2, .ref (G2.2.1 0)), (3, .int (i + 6))] [] M3 M4)))) ∧ ((((xs (ix i)) &&& 31)).toInt = 2 → vp_in (i + 1) L ∧ vp_in (i + 2) L ∧ vp_in (i + 3) L ∧ vp_in (i + 4) L ∧ vp_in (i + 5) L ∧ Ci shC G1 mX11_copy 2 [.ref (G1.2.1 0), .int (xs (ix (i + 1))), .int (xs (ix (i + 2))), .int (xs (ix (i + 3))), .int (xs (ix (i + 4))), .int (xs (ix (i + 5)))] Mc (fun x5 M5 => vp_in (i + 1) L ∧ vp_in (i + 2) L ∧ vp_in (i + 3) L ∧ vp_in (i + 4) L ∧ vp_in (i + 5) L ∧ Ci shM G2 mX12_copy 2 [.ref (G2.2.1 0), .int (xs (ix (i + 1))), .int (xs (ix (i + 2))), .int (xs (ix (i + 3))), .int (xs (ix (i + 4))), .int (xs (ix (i + 5)))] Mm (fun x6 M6 => (x5 = x6 ∧ VL G1 G2 b L xs cn sn 18 [(0, .ref b), (1, .ref (G1.2.1 0)), (2, .ref (G2.2.1 0)), (3, .int (i + 6))] [] M5 M6)))) ∧ ((((xs (ix i)) &&& 31)).toInt = 3 → vp_in (i + 1) L ∧ Ci shC G1 mX11_drop 1 [.ref (G1.2.1 0), .int (xs (ix (i + 1)))] Mc (fun x7 M7 => vp_in (i + 1) L ∧ Ci shM G2 mX12_drop 2 [.ref (G2.2.1 0), .int (xs (ix (i + 1)))] Mm (fun x8 M8 => (x7 = x8 ∧ VL G1 G2 b L xs cn sn 18 [(0, .ref b), (1, .ref (G1.2.1 0)), (2, .ref (G2.2.1 0)), (3, .int (i + 6))] [] M7 M8)))) ∧ ((((xs (ix i)) &&& 31)).toInt = 4 → vp_in (i + 1) L ∧ vp_in (i + 2) L ∧ vp_in (i + 3) L ∧ Ci shC G1 mX11_feed 1 [.ref (G1.2.1 0), .long (((Int32.toInt64 (xs (ix (i + 1)))) <<< (Int32.toInt64 32 &&& 63)) ||| ((Int32.toInt64 (xs (ix (i + 2)))) &&& 4294967295)), .int (xs (ix (i + 3)))] Mc (fun x9 M9 => vp_in (i + 1) L ∧ vp_in (i + 2) L ∧ vp_in (i + 3) L ∧ Ci shM G2 mX12_feed 1 [.ref (G2.2.1 0), .long (((Int32.toInt64 (xs (ix (i + 1)))) <<< (Int32.toInt64 32 &&& 63)) ||| ((Int32.toInt64 (xs (ix (i + 2)))) &&& 4294967295)), .int (xs (ix (i + 3)))] Mm (fun x10 M10 => (x9 = x10 ∧ VL G1 G2 b L xs cn sn 18 [(0, .ref b), (1, .ref (G1.2.1 0)), (2, .ref (G2.2.1 0)), (3, .int (i + 6))] [] M9 M10)))) ∧ ((((xs (ix i)) &&& 31)).toInt = 5 → Ci shC G1 mX11_read 9 [.ref (G1.2.1 0)] Mc (fun x11 M11 => Ci shM G2 mX12_read 6 [.ref (G2.2.1 0)] Mm (fun x12 M12 => (x11 = x12 ∧ VL G1 G2 b L xs cn sn 18 [(0, .ref b), (1, .ref (G1.2.1 0)), (2, .ref (G2.2.1 0)), (3, .int (i + 6))] [] M11 M12)))) ∧ ((((xs (ix i)) &&& 31)).toInt = 6 → Ci shC G1 mX11_fault 0 [.ref (G1.2.1 0)] Mc (fun x13 M13 => Ci shM G2 mX12_fault 0 [.ref (G2.2.1 0)] Mm (fun x14 M14 => (x13 = x14 ∧ VL G1 G2 b L xs cn sn 18 [(0, .ref b), (1, .ref (G1.2.1 0)), (2, .ref (G2.2.1 0)), (3, .int (i + 6))] [] M13 M14)))) ∧ ((((xs (ix i)) &&& 31)).toInt = 7 → vp_in (i + 1) L ∧ vp_in (i + 2) L ∧ Ci shC G1 mX11_line 2 [.ref (G1.2.1 0), .int (xs (ix (i + 1))), .int (xs (ix (i + 2)))] Mc (fun x15 M15 => vp_in (i + 1) L ∧ vp_in (i + 2) L ∧ Ci shM G2 mX12_line 3 [.ref (G2.2.1 0), .int (xs (ix (i + 1))), .int (xs (ix (i + 2)))] Mm (fun x16 M16 => (x15 = x16 ∧ VL G1 G2 b L xs cn sn 18 [(0, .ref b), (1, .ref (G1.2.1 0)), (2, .ref (G2.2.1 0)), (3, .int (i + 6))] [] M15 M16)))) ∧ ((((xs (ix i)) &&& 31)).toInt = 8 → vp_in (i + 1) L ∧ Ci shC G1 mX11_ear 1 [.ref (G1.2.1 0), .int (xs (ix (i + 1)))] Mc (fun x17 M17 => vp_in (i + 1) L ∧ Ci shM G2 mX12_ear 2 [.ref (G2.2.1 0), .int (xs (ix (i + 1)))] Mm (fun x18 M18 => (x17 = x18 ∧ VL G1 G2 b L xs cn sn 18 [(0, .ref b), (1, .ref (G1.2.1 0)), (2, .ref (G2.2.1 0)), (3, .int (i + 6))] [] M17 M18)))) ∧ ((((xs (ix i)) &&& 31)).toInt = 9 → vp_in (i + 1) L ∧ vp_in (i + 2) L ∧ vp_in (i + 3) L ∧ Ci shC G1 mX11_alike 3 [.ref (G1.2.1 0), .int (xs (ix (i + 1))), .int (xs (ix (i + 2))), .int (xs (ix (i + 3)))] Mc (fun x19 M19 => vp_in (i + 1) L ∧ vp_in (i + 2) L ∧ vp_in (i + 3) L ∧ Ci shM G2 mX12_alike 4 [.ref (G2.2.1 0), .int (xs (ix (i + 1))), .int (xs (ix (i + 2))), .int (xs (ix (i + 3)))] Mm (fun x20 M20 => (x19 = x20 ∧ VL G1 G2 b L xs cn sn 18 [(0, .ref b), (1, .ref (G1.2.1 0)), (2, .ref (G2.2.1 0)), (3, .int (i + 6))] [] M19 M20)))) ∧ ((((xs (ix i)) &&& 31)).toInt = 10 → vp_in (i + 1) L ∧ vp_in (i + 2) L ∧ vp_in (i + 3) L ∧ Ci shC G1 mX11_today 2 [.ref (G1.2.1 0), .int (xs (ix (i + 1))), .int (xs (ix (i + 2))), .int (xs (ix (i + 3)))] Mc (fun x21 M21 => vp_in (i + 1) L ∧ vp_in (i + 2) L ∧ vp_in (i + 3) L ∧ Ci shM G2 mX12_today 2 [.ref (G2.2.1 0), .int (xs (ix (i + 1))), .int (xs (ix (i + 2))), .int (xs (ix (i + 3)))] Mm (fun x22 M22 => (x21 = x22 ∧ VL G1 G2 b L xs cn sn 18 [(0, .ref b), (1, .ref (G1.2.1 0)), (2, .ref (G2.2.1 0)), (3, .int (i + 6))] [] M21 M22)))) ∧ ((((xs (ix i)) &&& 31)).toInt = 11 → Ci shC G1 mX11_quarrels 2 [.ref (G1.2.1 0)] Mc (fun x23 M23 => Ci shM G2 mX12_quarrels 0 [.ref (G2.2.1 0)] Mm (fun x24 M24 => (x23 = x24 ∧ VL G1 G2 b L xs cn sn 18 [(0, .ref b), (1, .ref (G1.2.1 0)), (2, .ref (G2.2.1 0)), (3, .int (i + 6))] [] M23 M24)))) ∧ ((((xs (ix i)) &&& 31)).toInt = 12 → vp_in (i + 1) L ∧ vp_in (i + 2) L ∧ vp_in (i + 3) L ∧ Ci shC G1 mX11_walks 3 [.ref (G1.2.1 0), .int (xs (ix (i + 1))), .int (xs (ix (i + 2))), .int (xs (ix (i + 3)))] Mc (fun x25 M25 => vp_in (i + 1) L ∧ vp_in (i + 2) L ∧ vp_in (i + 3) L ∧ Ci shM G2 mX12_walks 2 [.ref (G2.2.1 0), .int (xs (ix (i + 1))), .int (xs (ix (i + 2))), .int (xs (ix (i + 3)))] Mm (fun x26 M26 => (x25 = x26 ∧ VL G1 G2 b L xs cn sn 18 [(0, .ref b), (1, .ref (G1.2.1 0)), (2, .ref (G2.2.1 0)), (3, .int (i + 6))] [] M25 M26)))) ∧ ((((xs (ix i)) &&& 31)).toInt = 13 → vp_in (i + 1) L ∧ Cl shC G1 mX11_joined 7 [.ref (G1.2.1 0), .int (xs (ix (i + 1)))] Mc (fun x27 M27 => vp_in (i + 1) L ∧ Cl shM G2 mX12_joined 5 [.ref (G2.2.1 0), .int (xs (ix (i + 1)))] Mm (fun x28 M28 => (x27 = x28 ∧ VL G1 G2 b L xs cn sn 18 [(0, .ref b), (1, .ref (G1.2.1 0)), (2, .ref (G2.2.1 0)), (3, .int (i + 6))] [] M27 M28)))) ∧ ((((xs (ix i)) &&& 31)).toInt = 14 → vp_in (i + 1) L ∧ Ci shC G1 mX11_person 7 [.ref (G1.2.1 0), .int (xs (ix (i + 1)))] Mc (fun x29 M29 => vp_in (i + 1) L ∧ Ci shM G2 mX12_person 5 [.ref (G2.2.1 0), .int (xs (ix (i + 1)))] Mm (fun x30 M30 => (x29 = x30 ∧ VL G1 G2 b L xs cn sn 18 [(0, .ref b), (1, .ref (G1.2.1 0)), (2, .ref (G2.2.1 0)), (3, .int (i + 6))] [] M29 M30)))) ∧ ((((xs (ix i)) &&& 31)).toInt = 15 → vp_in (i + 1) L ∧ vp_in (i + 2) L ∧ Cl shC G1 mX11_sure 7 [.ref (G1.2.1 0), .int (xs (ix (i + 1))), .int (xs (ix (i + 2)))] Mc (fun x31 M31 => vp_in (i + 1) L ∧ vp_in (i + 2) L ∧ Cl shM G2 mX12_sure 5 [.ref (G2.2.1 0), .int (xs (ix (i + 1))), .int (xs (ix (i + 2)))] Mm (fun x32 M32 => (x31 = x32 ∧ VL G1 G2 b L xs cn sn 18 [(0, .ref b), (1, .ref (G1.2.1 0)), (2, .ref (G2.2.1 0)), (3, .int (i + 6))] [] M31 M32)))) ∧ ((((xs (ix i)) &&& 31)).toInt = 16 → vp_in (i + 1) L ∧ vp_in (i + 2) L ∧ Ci shC G1 mX11_stay 7 [.ref (G1.2.1 0), .int (xs (ix (i + 1))), .int (xs (ix (i + 2)))] Mc (fun x33 M33 => vp_in (i + 1) L ∧ vp_in (i + 2) L ∧ Ci shM G2 mX12_stay 5 [.ref (G2.2.1 0), .int (xs (ix (i + 1))), .int (xs (ix (i + 2)))] Mm (fun x34 M34 => (x33 = x34 ∧ VL G1 G2 b L xs cn sn 18 [(0, .ref b), (1, .ref (G1.2.1 0)), (2, .ref (G2.2.1 0)), (3, .int (i + 6))] [] M33 M34)))) ∧ ((((xs (ix i)) &&& 31)).toInt = 17 → vp_in (i + 1) L ∧ vp_in (i + 2) L ∧ vp_in (i + 3) L ∧ vp_in (i + 4) L ∧ Ci shC G1 mX11_lost 4 [.ref (G1.2.1 0), .int (xs (ix (i + 1))), .int (xs (ix (i + 2))), .int (xs (ix (i + 3))), .int (xs (ix (i + 4)))] Mc (fun x35 M35 => vp_in (i + 1) L ∧ vp_in (i + 2) L ∧ vp_in (i + 3) L ∧ vp_in (i + 4) L ∧ Ci shM G2 mX12_lost 4 [.ref (G2.2.1 0), .int (xs (ix (i + 1))), .int (xs (ix (i + 2))), .int (xs (ix (i + 3))), .int (xs (ix (i + 4)))] Mm (fun x36 M36 => (x35 = x36 ∧ VL G1 G2 b L xs cn sn 18 [(0, .ref b), (1, .ref (G1.2.1 0)), (2, .ref (G2.2.1 0)), (3, .int (i + 6))] [] M35 M36)))) ∧ ((((xs (ix i)) &&& 31)).toInt = 18 → vp_in (i + 1) L ∧ vp_in (i + 2) L ∧ vp_in (i + 3) L ∧ vp_in (i + 4) L ∧ vp_in (i + 5) L ∧ Ci shC G1 mX11_found 4 [.ref (G1.2.1 0), .int (xs (ix (i + 1))), .int (xs (ix (i + 2))), .int (xs (ix (i + 3))), .int (xs (ix (i + 4))), .int (xs (ix (i + 5)))] Mc (fun x37 M37 => vp_in (i + 1) L ∧ vp_in (i + 2) L ∧ vp_in (i + 3) L ∧ vp_in (i + 4) L ∧ vp_in (i + 5) L ∧ Ci shM G2 mX12_found 4 [.ref (G2.2.1 0), .int (xs (ix (i + 1))), .int (xs (ix (i + 2))), .int (xs (ix (i + 3))), .int (xs (ix (i + 4))), .int (xs (ix (i + 5)))] Mm (fun x38 M38 => (x37 = x38 ∧ VL G1 G2 b L xs cn sn 18 [(0, .ref b), (1, .ref (G1.2.1 0)), (2, .ref (G2.2.1 0)), (3, .int (i + 6))] [] M37 M38)))) ∧ ((((xs (ix i)) &&& 31)).toInt = 19 → vp_in (i + 1) L ∧ vp_in (i + 2) L ∧ vp_in (i + 3) L ∧ Ci shC G1 mX11_missing 3 [.ref (G1.2.1 0), .int (xs (ix (i + 1))), .int (xs (ix (i + 2))), .int (xs (ix (i + 3)))] Mc (fun x39 M39 => vp_in (i + 1) L ∧ vp_in (i + 2) L ∧ vp_in (i + 3) L ∧ Ci shM G2 mX12_missing 3 [.ref (G2.2.1 0), .int (xs (ix (i + 1))), .int (xs (ix (i + 2))), .int (xs (ix (i + 3)))] Mm (fun x40 M40 => (x39 = x40 ∧ VL G1 G2 b L xs cn sn 18 [(0, .ref b), (1, .ref (G1.2.1 0)), (2, .ref (G2.2.1 0)), (3, .int (i + 6))] [] M39 M40)))) ∧ ((((xs (ix i)) &&& 31)).toInt = 20 → vp_in (i + 1) L ∧ vp_in (i + 2) L ∧ Ci shC G1 mX11_shown 1 [.ref (G1.2.1 0), .int (xs (ix (i + 1))), .int (xs (ix (i + 2)))] Mc (fun x41 M41 => vp_in (i + 1) L ∧ vp_in (i + 2) L ∧ Ci shM G2 mX12_shown 2 [.ref (G2.2.1 0), .int (xs (ix (i + 1))), .int (xs (ix (i + 2)))] Mm (fun x42 M42 => (x41 = x42 ∧ VL G1 G2 b L xs cn sn 18 [(0, .ref b), (1, .ref (G1.2.1 0)), (2, .ref (G2.2.1 0)), (3, .int (i + 6))] [] M41 M42)))) ∧ ((((xs (ix i)) &&& 31)).toInt = 21 → vp_in (i + 1) L ∧ vp_in (i + 2) L ∧ Ci shC G1 mX11_leaf 1 [.ref (G1.2.1 0), .int (xs (ix (i + 1))), .int (xs (ix (i + 2)))] Mc (fun x43 M43 => vp_in (i + 1) L ∧ vp_in (i + 2) L ∧ Ci shM G2 mX12_leaf 2 [.ref (G2.2.1 0), .int (xs (ix (i + 1))), .int (xs (ix (i + 2)))] Mm (fun x44 M44 => (x43 = x44 ∧ VL G1 G2 b L xs cn sn 18 [(0, .ref b), (1, .ref (G1.2.1 0)), (2, .ref (G2.2.1 0)), (3, .int (i + 6))] [] M43 M44)))) ∧ ((((xs (ix i)) &&& 31)).toInt = 22 → Ci shC G1 mX11_next 3 [.ref (G1.2.1 0)] Mc (fun x45 M45 => Ci shM G2 mX12_next 3 [.ref (G2.2.1 0)] Mm (fun x46 M46 => (x45 = x46 ∧ VL G1 G2 b L xs cn sn 18 [(0, .ref b), (1, .ref (G1.2.1 0)), (2, .ref (G2.2.1 0)), (3, .int (i + 6))] [] M45 M46)))) ∧ ((((xs (ix i)) &&& 31)).toInt = 23 → vp_in (i + 1) L ∧ Ci shC G1 mX11_kind 1 [.ref (G1.2.1 0), .int (xs (ix (i + 1)))] Mc (fun x47 M47 => vp_in (i + 1) L ∧ Ci shM G2 mX12_kind 2 [.ref (G2.2.1 0), .int (xs (ix (i + 1)))] Mm (fun x48 M48 => (x47 = x48 ∧ VL G1 G2 b L xs cn sn 18 [(0, .ref b), (1, .ref (G1.2.1 0)), (2, .ref (G2.2.1 0)), (3, .int (i + 6))] [] M47 M48)))) ∧ ((((xs (ix i)) &&& 31)).toInt = 24 → vp_in (i + 1) L ∧ vp_in (i + 2) L ∧ Ci shC G1 mX11_as 2 [.ref (G1.2.1 0), .int (xs (ix (i + 1))), .int (xs (ix (i + 2)))] Mc (fun x49 M49 => vp_in (i + 1) L ∧ vp_in (i + 2) L ∧ Ci shM G2 mX12_as 2 [.ref (G2.2.1 0), .int (xs (ix (i + 1))), .int (xs (ix (i + 2)))] Mm (fun x50 M50 => (x49 = x50 ∧ VL G1 G2 b L xs cn sn 18 [(0, .ref b), (1, .ref (G1.2.1 0)), (2, .ref (G2.2.1 0)), (3, .int (i + 6))] [] M49 M50)))) ∧ ((((xs (ix i)) &&& 31)).toInt = 25 → vp_in (i + 1) L ∧ vp_in (i + 2) L ∧ Ci shC G1 mX11_ask 6 [.ref (G1.2.1 0), .int (xs (ix (i + 1))), .int (xs (ix (i + 2)))] Mc (fun x51 M51 => vp_in (i + 1) L ∧ vp_in (i + 2) L ∧ Ci shM G2 mX12_ask 4 [.ref (G2.2.1 0), .int (xs (ix (i + 1))), .int (xs (ix (i + 2)))] Mm (fun x52 M52 => (x51 = x52 ∧ VL G1 G2 b L xs cn sn 18 [(0, .ref b), (1, .ref (G1.2.1 0)), (2, .ref (G2.2.1 0)), (3, .int (i + 6))] [] M51 M52)))) ∧ ((((xs (ix i)) &&& 31)).toInt = 26 → vp_in (i + 1) L ∧ Ci shC G1 mX11_trace 0 [.ref (G1.2.1 0), .int (xs (ix (i + 1)))] Mc (fun x53 M53 => vp_in (i + 1) L ∧ Ci shM G2 mX12_trace 1 [.ref (G2.2.1 0), .int (xs (ix (i + 1)))] Mm (fun x54 M54 => (x53 = x54 ∧ VL G1 G2 b L xs cn sn 18 [(0, .ref b), (1, .ref (G1.2.1 0)), (2, .ref (G2.2.1 0)), (3, .int (i + 6))] [] M53 M54)))) ∧ ((((xs (ix i)) &&& 31)).toInt = 27 → vp_in (i + 1) L ∧ Ci shC G1 mX11_count 3 [.ref (G1.2.1 0), .int (xs (ix (i + 1)))] Mc (fun x55 M55 => vp_in (i + 1) L ∧ Ci shM G2 mX12_count 3 [.ref (G2.2.1 0), .int (xs (ix (i + 1)))] Mm (fun x56 M56 => (x55 = x56 ∧ VL G1 G2 b L xs cn sn 18 [(0, .ref b), (1, .ref (G1.2.1 0)), (2, .ref (G2.2.1 0)), (3, .int (i + 6))] [] M55 M56)))) ∧ ((((xs (ix i)) &&& 31)).toInt = 28 → Ci shC G1 mX11_status 0 [.ref (G1.2.1 0)] Mc (fun x57 M57 => Ci shM G2 mX12_status 0 [.ref (G2.2.1 0)] Mm (fun x58 M58 => (x57 = x58 ∧ VL G1 G2 b L xs cn sn 18 [(0, .ref b), (1, .ref (G1.2.1 0)), (2, .ref (G2.2.1 0)), (3, .int (i + 6))] [] M57 M58)))) ∧ (((((xs (ix i)) &&& 31)).toInt < 0 ∨ 28 < (((xs (ix i)) &&& 31)).toInt) → VL G1 G2 b L xs cn sn 18 [(0, .ref b), (1, .ref (G1.2.1 0)), (2, .ref (G2.2.1 0)), (3, .int (i + 6))] [] Mc Mm))))) : VL G1 G2 b L xs cn sn 18 [(0, .ref b), (1, .ref (G1.2.1 0)), (2, .ref (G2.2.1 0)), (3, .int i)] [] Mc Mm := by
  refine VL_iload_n (pc := 18) dL_18 rfl ?_
  refine VL_aload_n (pc := 19) dL_19 rfl ?_
  refine VL_slen (pc := 20) dL_20 ?_
  refine VL_bipush (v := 6) (pc := 21) dL_21 rfl ?_
  refine VL_isub (pc := 23) dL_23 ?_
  refine VL_icmp_gt (tgt := 1129) (pc := 24) dL_24 rfl (fun c => ?_) (fun c => ?_)
  · have h := h.1 c
    refine VL_iconst (v := 1) (pc := 1129) dL_1129 rfl ?_
    exact VL_end dL_1130 hcn hsn
  · have h := h.2 c
    refine VL_aload_n (pc := 27) dL_27 rfl ?_
    refine VL_iload_n (pc := 28) dL_28 rfl ?_
    refine VL_sld (pc := 29) dL_29 h.1 ?_
    have h := h.2
    refine VL_bipush (v := 31) (pc := 30) dL_30 rfl ?_
    refine VL_iand (pc := 32) dL_32 ?_
    refine VL_table (tgt := 1123) (pc := 33) dL_33 rfl rfl rfl ⟨fun c => ?_, fun c => ?_, fun c => ?_, fun c => ?_, fun c => ?_, fun c => ?_, fun c => ?_, fun c => ?_, fun c => ?_, fun c => ?_, fun c => ?_, fun c => ?_, fun c => ?_, fun c => ?_, fun c => ?_, fun c => ?_, fun c => ?_, fun c => ?_, fun c => ?_, fun c => ?_, fun c => ?_, fun c => ?_, fun c => ?_, fun c => ?_, fun c => ?_, fun c => ?_, fun c => ?_, fun c => ?_, fun c => ?_, trivial⟩ (fun c => ?_)
    · have h := h.1 c
      show VL _ _ _ _ _ _ _ 164 _ _ _ _
      refine VL_aload_n (pc := 164) dL_164 rfl ?_
      refine VL_aload_n (pc := 165) dL_165 rfl ?_
      refine VL_iload_n (pc := 166) dL_166 rfl ?_
      refine VL_iconst (v := 1) (pc := 167) dL_167 rfl ?_
      refine VL_iadd (pc := 168) dL_168 ?_
      refine VL_sld (pc := 169) dL_169 h.1 ?_
      have h := h.2
      refine VL_aload_n (pc := 170) dL_170 rfl ?_
      refine VL_iload_n (pc := 171) dL_171 rfl ?_
      refine VL_iconst (v := 2) (pc := 172) dL_172 rfl ?_
      refine VL_iadd (pc := 173) dL_173 ?_
      refine VL_sld (pc := 174) dL_174 h.1 ?_
      have h := h.2
      refine VL_aload_n (pc := 175) dL_175 rfl ?_
      refine VL_iload_n (pc := 176) dL_176 rfl ?_
      refine VL_iconst (v := 3) (pc := 177) dL_177 rfl ?_
      refine VL_iadd (pc := 178) dL_178 ?_
      refine VL_sld (pc := 179) dL_179 h.1 ?_
      have h := h.2
      refine VL_callCi [.int (xs (ix (i + 1))), .int (xs (ix (i + 2))), .int (xs (ix (i + 3)))] (k := 1) (pc := 180) kX11_sheet (by decide) lL_13 rfl rfl (Nat.le_of_ble_eq_true rfl) rfl (Nat.le_of_ble_eq_true rfl) dL_180 hcn hsn ?_
      refine Ci.mono h ?_
      intro x1 M1 h
      refine VL_aload_n (pc := 183) dL_183 rfl ?_
      refine VL_aload_n (pc := 184) dL_184 rfl ?_
      refine VL_iload_n (pc := 185) dL_185 rfl ?_
      refine VL_iconst (v := 1) (pc := 186) dL_186 rfl ?_
      refine VL_iadd (pc := 187) dL_187 ?_
      refine VL_sld (pc := 188) dL_188 h.1 ?_
      have h := h.2
      refine VL_aload_n (pc := 189) dL_189 rfl ?_
      refine VL_iload_n (pc := 190) dL_190 rfl ?_
      refine VL_iconst (v := 2) (pc := 191) dL_191 rfl ?_
      refine VL_iadd (pc := 192) dL_192 ?_
      refine VL_sld (pc := 193) dL_193 h.1 ?_
      have h := h.2
      refine VL_aload_n (pc := 194) dL_194 rfl ?_
      refine VL_iload_n (pc := 195) dL_195 rfl ?_
      refine VL_iconst (v := 3) (pc := 196) dL_196 rfl ?_
      refine VL_iadd (pc := 197) dL_197 ?_
      refine VL_sld (pc := 198) dL_198 h.1 ?_
      have h := h.2
      refine VL_callMi [.int (xs (ix (i + 1))), .int (xs (ix (i + 2))), .int (xs (ix (i + 3)))] (k := 2) (pc := 199) kX12_sheet (by decide) lL_17 rfl rfl (Nat.le_of_ble_eq_true rfl) rfl (Nat.le_of_ble_eq_true rfl) dL_199 hcn hsn ?_
      refine Ci.mono h ?_
      intro x2 M2 h
      refine VL_icmp_eq (tgt := 1123) (pc := 202) dL_202 rfl (fun c => ?_) (fun c => ?_)
      · have h := h.2
        refine VL_iinc (pc := 1123) dL_1123 rfl (by decide) ?_
        refine VL_lv (lv2 := [(0, .ref b), (1, .ref (G1.2.1 0)), (2, .ref (G2.2.1 0)), (3, .int (i + 6))]) rfl ?_
        refine VL_goto (tgt := 18) (pc := 1126) dL_1126 rfl ?_
        exact h
      · exact absurd h.1 c
    · have h := h.2.1 c
      show VL _ _ _ _ _ _ _ 207 _ _ _ _
      refine VL_aload_n (pc := 207) dL_207 rfl ?_
      refine VL_aload_n (pc := 208) dL_208 rfl ?_
      refine VL_iload_n (pc := 209) dL_209 rfl ?_
      refine VL_iconst (v := 1) (pc := 210) dL_210 rfl ?_
      refine VL_iadd (pc := 211) dL_211 ?_
      refine VL_sld (pc := 212) dL_212 h.1 ?_
      have h := h.2
      refine VL_aload_n (pc := 213) dL_213 rfl ?_
      refine VL_iload_n (pc := 214) dL_214 rfl ?_
      refine VL_iconst (v := 2) (pc := 215) dL_215 rfl ?_
      refine VL_iadd (pc := 216) dL_216 ?_
      refine VL_sld (pc := 217) dL_217 h.1 ?_
      have h := h.2
      refine VL_aload_n (pc := 218) dL_218 rfl ?_
      refine VL_iload_n (pc := 219) dL_219 rfl ?_
      refine VL_iconst (v := 3) (pc := 220) dL_220 rfl ?_
      refine VL_iadd (pc := 221) dL_221 ?_
      refine VL_sld (pc := 222) dL_222 h.1 ?_
      have h := h.2
      refine VL_callCi [.int (xs (ix (i + 1))), .int (xs (ix (i + 2))), .int (xs (ix (i + 3)))] (k := 1) (pc := 223) kX11_set (by decide) lL_18 rfl rfl (Nat.le_of_ble_eq_true rfl) rfl (Nat.le_of_ble_eq_true rfl) dL_223 hcn hsn ?_
      refine Ci.mono h ?_
      intro x3 M3 h
      refine VL_aload_n (pc := 226) dL_226 rfl ?_
      refine VL_aload_n (pc := 227) dL_227 rfl ?_
      refine VL_iload_n (pc := 228) dL_228 rfl ?_
      refine VL_iconst (v := 1) (pc := 229) dL_229 rfl ?_
      refine VL_iadd (pc := 230) dL_230 ?_
      refine VL_sld (pc := 231) dL_231 h.1 ?_
      have h := h.2
      refine VL_aload_n (pc := 232) dL_232 rfl ?_
      refine VL_iload_n (pc := 233) dL_233 rfl ?_
      refine VL_iconst (v := 2) (pc := 234) dL_234 rfl ?_
      refine VL_iadd (pc := 235) dL_235 ?_
      refine VL_sld (pc := 236) dL_236 h.1 ?_
      have h := h.2
      refine VL_aload_n (pc := 237) dL_237 rfl ?_
      refine VL_iload_n (pc := 238) dL_238 rfl ?_
      refine VL_iconst (v := 3) (pc := 239) dL_239 rfl ?_
      refine VL_iadd (pc := 240) dL_240 ?_
      refine VL_sld (pc := 241) dL_241 h.1 ?_
      have h := h.2
      refine VL_callMi [.int (xs (ix (i + 1))), .int (xs (ix (i + 2))), .int (xs (ix (i + 3)))] (k := 2) (pc := 242) kX12_set (by decide) lL_21 rfl rfl (Nat.le_of_ble_eq_true rfl) rfl (Nat.le_of_ble_eq_true rfl) dL_242 hcn hsn ?_
      refine Ci.mono h ?_
      intro x4 M4 h
      refine VL_icmp_eq (tgt := 1123) (pc := 245) dL_245 rfl (fun c => ?_) (fun c => ?_)
      · have h := h.2
        refine VL_iinc (pc := 1123) dL_1123 rfl (by decide) ?_
        refine VL_lv (lv2 := [(0, .ref b), (1, .ref (G1.2.1 0)), (2, .ref (G2.2.1 0)), (3, .int (i + 6))]) rfl ?_
        refine VL_goto (tgt := 18) (pc := 1126) dL_1126 rfl ?_
        exact h
      · exact absurd h.1 c
    · have h := h.2.2.1 c
      show VL _ _ _ _ _ _ _ 250 _ _ _ _
      refine VL_aload_n (pc := 250) dL_250 rfl ?_
      refine VL_aload_n (pc := 251) dL_251 rfl ?_
      refine VL_iload_n (pc := 252) dL_252 rfl ?_
      refine VL_iconst (v := 1) (pc := 253) dL_253 rfl ?_
      refine VL_iadd (pc := 254) dL_254 ?_
      refine VL_sld (pc := 255) dL_255 h.1 ?_
      have h := h.2
      refine VL_aload_n (pc := 256) dL_256 rfl ?_
      refine VL_iload_n (pc := 257) dL_257 rfl ?_
      refine VL_iconst (v := 2) (pc := 258) dL_258 rfl ?_
      refine VL_iadd (pc := 259) dL_259 ?_
      refine VL_sld (pc := 260) dL_260 h.1 ?_
      have h := h.2
      refine VL_aload_n (pc := 261) dL_261 rfl ?_
      refine VL_iload_n (pc := 262) dL_262 rfl ?_
      refine VL_iconst (v := 3) (pc := 263) dL_263 rfl ?_
      refine VL_iadd (pc := 264) dL_264 ?_
      refine VL_sld (pc := 265) dL_265 h.1 ?_
      have h := h.2
      refine VL_aload_n (pc := 266) dL_266 rfl ?_
      refine VL_iload_n (pc := 267) dL_267 rfl ?_
      refine VL_iconst (v := 4) (pc := 268) dL_268 rfl ?_
      refine VL_iadd (pc := 269) dL_269 ?_
      refine VL_sld (pc := 270) dL_270 h.1 ?_
      have h := h.2
      refine VL_aload_n (pc := 271) dL_271 rfl ?_
      refine VL_iload_n (pc := 272) dL_272 rfl ?_
      refine VL_iconst (v := 5) (pc := 273) dL_273 rfl ?_
      refine VL_iadd (pc := 274) dL_274 ?_
      refine VL_sld (pc := 275) dL_275 h.1 ?_
      have h := h.2
      refine VL_callCi [.int (xs (ix (i + 1))), .int (xs (ix (i + 2))), .int (xs (ix (i + 3))), .int (xs (ix (i + 4))), .int (xs (ix (i + 5)))] (k := 2) (pc := 276) kX11_copy (by decide) lL_22 rfl rfl (Nat.le_of_ble_eq_true rfl) rfl (Nat.le_of_ble_eq_true rfl) dL_276 hcn hsn ?_
      refine Ci.mono h ?_
      intro x5 M5 h
      refine VL_aload_n (pc := 279) dL_279 rfl ?_
      refine VL_aload_n (pc := 280) dL_280 rfl ?_
      refine VL_iload_n (pc := 281) dL_281 rfl ?_
      refine VL_iconst (v := 1) (pc := 282) dL_282 rfl ?_
      refine VL_iadd (pc := 283) dL_283 ?_
      refine VL_sld (pc := 284) dL_284 h.1 ?_
      have h := h.2
      refine VL_aload_n (pc := 285) dL_285 rfl ?_
      refine VL_iload_n (pc := 286) dL_286 rfl ?_
      refine VL_iconst (v := 2) (pc := 287) dL_287 rfl ?_
      refine VL_iadd (pc := 288) dL_288 ?_
      refine VL_sld (pc := 289) dL_289 h.1 ?_
      have h := h.2
      refine VL_aload_n (pc := 290) dL_290 rfl ?_
      refine VL_iload_n (pc := 291) dL_291 rfl ?_
      refine VL_iconst (v := 3) (pc := 292) dL_292 rfl ?_
      refine VL_iadd (pc := 293) dL_293 ?_
      refine VL_sld (pc := 294) dL_294 h.1 ?_
      have h := h.2
      refine VL_aload_n (pc := 295) dL_295 rfl ?_
      refine VL_iload_n (pc := 296) dL_296 rfl ?_
      refine VL_iconst (v := 4) (pc := 297) dL_297 rfl ?_
      refine VL_iadd (pc := 298) dL_298 ?_
      refine VL_sld (pc := 299) dL_299 h.1 ?_
      have h := h.2
      refine VL_aload_n (pc := 300) dL_300 rfl ?_
      refine VL_iload_n (pc := 301) dL_301 rfl ?_
      refine VL_iconst (v := 5) (pc := 302) dL_302 rfl ?_
      refine VL_iadd (pc := 303) dL_303 ?_
      refine VL_sld (pc := 304) dL_304 h.1 ?_
      have h := h.2
      refine VL_callMi [.int (xs (ix (i + 1))), .int (xs (ix (i + 2))), .int (xs (ix (i + 3))), .int (xs (ix (i + 4))), .int (xs (ix (i + 5)))] (k := 2) (pc := 305) kX12_copy (by decide) lL_26 rfl rfl (Nat.le_of_ble_eq_true rfl) rfl (Nat.le_of_ble_eq_true rfl) dL_305 hcn hsn ?_
      refine Ci.mono h ?_
      intro x6 M6 h
      refine VL_icmp_eq (tgt := 1123) (pc := 308) dL_308 rfl (fun c => ?_) (fun c => ?_)
      · have h := h.2
        refine VL_iinc (pc := 1123) dL_1123 rfl (by decide) ?_
        refine VL_lv (lv2 := [(0, .ref b), (1, .ref (G1.2.1 0)), (2, .ref (G2.2.1 0)), (3, .int (i + 6))]) rfl ?_
        refine VL_goto (tgt := 18) (pc := 1126) dL_1126 rfl ?_
        exact h
      · exact absurd h.1 c
    · have h := h.2.2.2.1 c
      show VL _ _ _ _ _ _ _ 313 _ _ _ _
      refine VL_aload_n (pc := 313) dL_313 rfl ?_
      refine VL_aload_n (pc := 314) dL_314 rfl ?_
      refine VL_iload_n (pc := 315) dL_315 rfl ?_
      refine VL_iconst (v := 1) (pc := 316) dL_316 rfl ?_
      refine VL_iadd (pc := 317) dL_317 ?_
      refine VL_sld (pc := 318) dL_318 h.1 ?_
      have h := h.2
      refine VL_callCi [.int (xs (ix (i + 1)))] (k := 1) (pc := 319) kX11_drop (by decide) lL_27 rfl rfl (Nat.le_of_ble_eq_true rfl) rfl (Nat.le_of_ble_eq_true rfl) dL_319 hcn hsn ?_
      refine Ci.mono h ?_
      intro x7 M7 h
      refine VL_aload_n (pc := 322) dL_322 rfl ?_
      refine VL_aload_n (pc := 323) dL_323 rfl ?_
      refine VL_iload_n (pc := 324) dL_324 rfl ?_
      refine VL_iconst (v := 1) (pc := 325) dL_325 rfl ?_
      refine VL_iadd (pc := 326) dL_326 ?_
      refine VL_sld (pc := 327) dL_327 h.1 ?_
      have h := h.2
      refine VL_callMi [.int (xs (ix (i + 1)))] (k := 2) (pc := 328) kX12_drop (by decide) lL_31 rfl rfl (Nat.le_of_ble_eq_true rfl) rfl (Nat.le_of_ble_eq_true rfl) dL_328 hcn hsn ?_
      refine Ci.mono h ?_
      intro x8 M8 h
      refine VL_icmp_eq (tgt := 1123) (pc := 331) dL_331 rfl (fun c => ?_) (fun c => ?_)
      · have h := h.2
        refine VL_iinc (pc := 1123) dL_1123 rfl (by decide) ?_
        refine VL_lv (lv2 := [(0, .ref b), (1, .ref (G1.2.1 0)), (2, .ref (G2.2.1 0)), (3, .int (i + 6))]) rfl ?_
        refine VL_goto (tgt := 18) (pc := 1126) dL_1126 rfl ?_
        exact h
      · exact absurd h.1 c
    · have h := h.2.2.2.2.1 c
      show VL _ _ _ _ _ _ _ 336 _ _ _ _
      refine VL_aload_n (pc := 336) dL_336 rfl ?_
      refine VL_aload_n (pc := 337) dL_337 rfl ?_
      refine VL_iload_n (pc := 338) dL_338 rfl ?_
      refine VL_iconst (v := 1) (pc := 339) dL_339 rfl ?_
      refine VL_iadd (pc := 340) dL_340 ?_
      refine VL_sld (pc := 341) dL_341 h.1 ?_
      have h := h.2
      refine VL_i2l (pc := 342) dL_342 ?_
      refine VL_bipush (v := 32) (pc := 343) dL_343 rfl ?_
      refine VL_lshl (pc := 345) dL_345 ?_
      refine VL_aload_n (pc := 346) dL_346 rfl ?_
      refine VL_iload_n (pc := 347) dL_347 rfl ?_
      refine VL_iconst (v := 2) (pc := 348) dL_348 rfl ?_
      refine VL_iadd (pc := 349) dL_349 ?_
      refine VL_sld (pc := 350) dL_350 h.1 ?_
      have h := h.2
      refine VL_i2l (pc := 351) dL_351 ?_
      refine VL_ldc2 (pc := 352) dL_352 nL_32 ?_
      refine VL_land (pc := 355) dL_355 ?_
      refine VL_lor (pc := 356) dL_356 ?_
      refine VL_aload_n (pc := 357) dL_357 rfl ?_
      refine VL_iload_n (pc := 358) dL_358 rfl ?_
      refine VL_iconst (v := 3) (pc := 359) dL_359 rfl ?_
      refine VL_iadd (pc := 360) dL_360 ?_
      refine VL_sld (pc := 361) dL_361 h.1 ?_
      have h := h.2
      refine VL_callCi [.long (((Int32.toInt64 (xs (ix (i + 1)))) <<< (Int32.toInt64 32 &&& 63)) ||| ((Int32.toInt64 (xs (ix (i + 2)))) &&& 4294967295)), .int (xs (ix (i + 3)))] (k := 1) (pc := 362) kX11_feed (by decide) lL_34 rfl rfl (Nat.le_of_ble_eq_true rfl) rfl (Nat.le_of_ble_eq_true rfl) dL_362 hcn hsn ?_
      refine Ci.mono h ?_
      intro x9 M9 h
      refine VL_aload_n (pc := 365) dL_365 rfl ?_
      refine VL_aload_n (pc := 366) dL_366 rfl ?_
      refine VL_iload_n (pc := 367) dL_367 rfl ?_
      refine VL_iconst (v := 1) (pc := 368) dL_368 rfl ?_
      refine VL_iadd (pc := 369) dL_369 ?_
      refine VL_sld (pc := 370) dL_370 h.1 ?_
      have h := h.2
      refine VL_i2l (pc := 371) dL_371 ?_
      refine VL_bipush (v := 32) (pc := 372) dL_372 rfl ?_
      refine VL_lshl (pc := 374) dL_374 ?_
      refine VL_aload_n (pc := 375) dL_375 rfl ?_
      refine VL_iload_n (pc := 376) dL_376 rfl ?_
      refine VL_iconst (v := 2) (pc := 377) dL_377 rfl ?_
      refine VL_iadd (pc := 378) dL_378 ?_
      refine VL_sld (pc := 379) dL_379 h.1 ?_
      have h := h.2
      refine VL_i2l (pc := 380) dL_380 ?_
      refine VL_ldc2 (pc := 381) dL_381 nL_32 ?_
      refine VL_land (pc := 384) dL_384 ?_
      refine VL_lor (pc := 385) dL_385 ?_
      refine VL_aload_n (pc := 386) dL_386 rfl ?_
      refine VL_iload_n (pc := 387) dL_387 rfl ?_
      refine VL_iconst (v := 3) (pc := 388) dL_388 rfl ?_
      refine VL_iadd (pc := 389) dL_389 ?_
      refine VL_sld (pc := 390) dL_390 h.1 ?_
      have h := h.2
      refine VL_callMi [.long (((Int32.toInt64 (xs (ix (i + 1)))) <<< (Int32.toInt64 32 &&& 63)) ||| ((Int32.toInt64 (xs (ix (i + 2)))) &&& 4294967295)), .int (xs (ix (i + 3)))] (k := 1) (pc := 391) kX12_feed (by decide) lL_38 rfl rfl (Nat.le_of_ble_eq_true rfl) rfl (Nat.le_of_ble_eq_true rfl) dL_391 hcn hsn ?_
      refine Ci.mono h ?_
      intro x10 M10 h
      refine VL_icmp_eq (tgt := 1123) (pc := 394) dL_394 rfl (fun c => ?_) (fun c => ?_)
      · have h := h.2
        refine VL_iinc (pc := 1123) dL_1123 rfl (by decide) ?_
        refine VL_lv (lv2 := [(0, .ref b), (1, .ref (G1.2.1 0)), (2, .ref (G2.2.1 0)), (3, .int (i + 6))]) rfl ?_
        refine VL_goto (tgt := 18) (pc := 1126) dL_1126 rfl ?_
        exact h
      · exact absurd h.1 c
    · have h := h.2.2.2.2.2.1 c
      show VL _ _ _ _ _ _ _ 399 _ _ _ _
      refine VL_aload_n (pc := 399) dL_399 rfl ?_
      refine VL_callCi [] (k := 9) (pc := 400) kX11_read (by decide) lL_39 rfl rfl (Nat.le_of_ble_eq_true rfl) rfl (Nat.le_of_ble_eq_true rfl) dL_400 hcn hsn ?_
      refine Ci.mono h ?_
      intro x11 M11 h
      refine VL_aload_n (pc := 403) dL_403 rfl ?_
      refine VL_callMi [] (k := 6) (pc := 404) kX12_read (by decide) lL_43 rfl rfl (Nat.le_of_ble_eq_true rfl) rfl (Nat.le_of_ble_eq_true rfl) dL_404 hcn hsn ?_
      refine Ci.mono h ?_
      intro x12 M12 h
      refine VL_icmp_eq (tgt := 1123) (pc := 407) dL_407 rfl (fun c => ?_) (fun c => ?_)
      · have h := h.2
        refine VL_iinc (pc := 1123) dL_1123 rfl (by decide) ?_
        refine VL_lv (lv2 := [(0, .ref b), (1, .ref (G1.2.1 0)), (2, .ref (G2.2.1 0)), (3, .int (i + 6))]) rfl ?_
        refine VL_goto (tgt := 18) (pc := 1126) dL_1126 rfl ?_
        exact h
      · exact absurd h.1 c
    · have h := h.2.2.2.2.2.2.1 c
      show VL _ _ _ _ _ _ _ 412 _ _ _ _
      refine VL_aload_n (pc := 412) dL_412 rfl ?_
      refine VL_callCi [] (k := 0) (pc := 413) kX11_fault (by decide) lL_44 rfl rfl (Nat.le_of_ble_eq_true rfl) rfl (Nat.le_of_ble_eq_true rfl) dL_413 hcn hsn ?_
      refine Ci.mono h ?_
      intro x13 M13 h
      refine VL_aload_n (pc := 416) dL_416 rfl ?_
      refine VL_callMi [] (k := 0) (pc := 417) kX12_fault (by decide) lL_47 rfl rfl (Nat.le_of_ble_eq_true rfl) rfl (Nat.le_of_ble_eq_true rfl) dL_417 hcn hsn ?_
      refine Ci.mono h ?_
      intro x14 M14 h
      refine VL_icmp_eq (tgt := 1123) (pc := 420) dL_420 rfl (fun c => ?_) (fun c => ?_)
      · have h := h.2
        refine VL_iinc (pc := 1123) dL_1123 rfl (by decide) ?_
        refine VL_lv (lv2 := [(0, .ref b), (1, .ref (G1.2.1 0)), (2, .ref (G2.2.1 0)), (3, .int (i + 6))]) rfl ?_
        refine VL_goto (tgt := 18) (pc := 1126) dL_1126 rfl ?_
        exact h
      · exact absurd h.1 c
    · have h := h.2.2.2.2.2.2.2.1 c
      show VL _ _ _ _ _ _ _ 425 _ _ _ _
      refine VL_aload_n (pc := 425) dL_425 rfl ?_
      refine VL_aload_n (pc := 426) dL_426 rfl ?_
      refine VL_iload_n (pc := 427) dL_427 rfl ?_
      refine VL_iconst (v := 1) (pc := 428) dL_428 rfl ?_
      refine VL_iadd (pc := 429) dL_429 ?_
      refine VL_sld (pc := 430) dL_430 h.1 ?_
      have h := h.2
      refine VL_aload_n (pc := 431) dL_431 rfl ?_
      refine VL_iload_n (pc := 432) dL_432 rfl ?_
      refine VL_iconst (v := 2) (pc := 433) dL_433 rfl ?_
      refine VL_iadd (pc := 434) dL_434 ?_
      refine VL_sld (pc := 435) dL_435 h.1 ?_
      have h := h.2
      refine VL_callCi [.int (xs (ix (i + 1))), .int (xs (ix (i + 2)))] (k := 2) (pc := 436) kX11_line (by decide) lL_48 rfl rfl (Nat.le_of_ble_eq_true rfl) rfl (Nat.le_of_ble_eq_true rfl) dL_436 hcn hsn ?_
      refine Ci.mono h ?_
      intro x15 M15 h
      refine VL_aload_n (pc := 439) dL_439 rfl ?_
      refine VL_aload_n (pc := 440) dL_440 rfl ?_
      refine VL_iload_n (pc := 441) dL_441 rfl ?_
      refine VL_iconst (v := 1) (pc := 442) dL_442 rfl ?_
      refine VL_iadd (pc := 443) dL_443 ?_
      refine VL_sld (pc := 444) dL_444 h.1 ?_
      have h := h.2
      refine VL_aload_n (pc := 445) dL_445 rfl ?_
      refine VL_iload_n (pc := 446) dL_446 rfl ?_
      refine VL_iconst (v := 2) (pc := 447) dL_447 rfl ?_
      refine VL_iadd (pc := 448) dL_448 ?_
      refine VL_sld (pc := 449) dL_449 h.1 ?_
      have h := h.2
      refine VL_callMi [.int (xs (ix (i + 1))), .int (xs (ix (i + 2)))] (k := 3) (pc := 450) kX12_line (by decide) lL_52 rfl rfl (Nat.le_of_ble_eq_true rfl) rfl (Nat.le_of_ble_eq_true rfl) dL_450 hcn hsn ?_
      refine Ci.mono h ?_
      intro x16 M16 h
      refine VL_icmp_eq (tgt := 1123) (pc := 453) dL_453 rfl (fun c => ?_) (fun c => ?_)
      · have h := h.2
        refine VL_iinc (pc := 1123) dL_1123 rfl (by decide) ?_
        refine VL_lv (lv2 := [(0, .ref b), (1, .ref (G1.2.1 0)), (2, .ref (G2.2.1 0)), (3, .int (i + 6))]) rfl ?_
        refine VL_goto (tgt := 18) (pc := 1126) dL_1126 rfl ?_
        exact h
      · exact absurd h.1 c
    · have h := h.2.2.2.2.2.2.2.2.1 c
      show VL _ _ _ _ _ _ _ 458 _ _ _ _
      refine VL_aload_n (pc := 458) dL_458 rfl ?_
      refine VL_aload_n (pc := 459) dL_459 rfl ?_
      refine VL_iload_n (pc := 460) dL_460 rfl ?_
      refine VL_iconst (v := 1) (pc := 461) dL_461 rfl ?_
      refine VL_iadd (pc := 462) dL_462 ?_
      refine VL_sld (pc := 463) dL_463 h.1 ?_
      have h := h.2
      refine VL_callCi [.int (xs (ix (i + 1)))] (k := 1) (pc := 464) kX11_ear (by decide) lL_53 rfl rfl (Nat.le_of_ble_eq_true rfl) rfl (Nat.le_of_ble_eq_true rfl) dL_464 hcn hsn ?_
      refine Ci.mono h ?_
      intro x17 M17 h
      refine VL_aload_n (pc := 467) dL_467 rfl ?_
      refine VL_aload_n (pc := 468) dL_468 rfl ?_
      refine VL_iload_n (pc := 469) dL_469 rfl ?_
      refine VL_iconst (v := 1) (pc := 470) dL_470 rfl ?_
      refine VL_iadd (pc := 471) dL_471 ?_
      refine VL_sld (pc := 472) dL_472 h.1 ?_
      have h := h.2
      refine VL_callMi [.int (xs (ix (i + 1)))] (k := 2) (pc := 473) kX12_ear (by decide) lL_56 rfl rfl (Nat.le_of_ble_eq_true rfl) rfl (Nat.le_of_ble_eq_true rfl) dL_473 hcn hsn ?_
      refine Ci.mono h ?_
      intro x18 M18 h
      refine VL_icmp_eq (tgt := 1123) (pc := 476) dL_476 rfl (fun c => ?_) (fun c => ?_)
      · have h := h.2
        refine VL_iinc (pc := 1123) dL_1123 rfl (by decide) ?_
        refine VL_lv (lv2 := [(0, .ref b), (1, .ref (G1.2.1 0)), (2, .ref (G2.2.1 0)), (3, .int (i + 6))]) rfl ?_
        refine VL_goto (tgt := 18) (pc := 1126) dL_1126 rfl ?_
        exact h
      · exact absurd h.1 c
    · have h := h.2.2.2.2.2.2.2.2.2.1 c
      show VL _ _ _ _ _ _ _ 481 _ _ _ _
      refine VL_aload_n (pc := 481) dL_481 rfl ?_
      refine VL_aload_n (pc := 482) dL_482 rfl ?_
      refine VL_iload_n (pc := 483) dL_483 rfl ?_
      refine VL_iconst (v := 1) (pc := 484) dL_484 rfl ?_
      refine VL_iadd (pc := 485) dL_485 ?_
      refine VL_sld (pc := 486) dL_486 h.1 ?_
      have h := h.2
      refine VL_aload_n (pc := 487) dL_487 rfl ?_
      refine VL_iload_n (pc := 488) dL_488 rfl ?_
      refine VL_iconst (v := 2) (pc := 489) dL_489 rfl ?_
      refine VL_iadd (pc := 490) dL_490 ?_
      refine VL_sld (pc := 491) dL_491 h.1 ?_
      have h := h.2
      refine VL_aload_n (pc := 492) dL_492 rfl ?_
      refine VL_iload_n (pc := 493) dL_493 rfl ?_
      refine VL_iconst (v := 3) (pc := 494) dL_494 rfl ?_
      refine VL_iadd (pc := 495) dL_495 ?_
      refine VL_sld (pc := 496) dL_496 h.1 ?_
      have h := h.2
      refine VL_callCi [.int (xs (ix (i + 1))), .int (xs (ix (i + 2))), .int (xs (ix (i + 3)))] (k := 3) (pc := 497) kX11_alike (by decide) lL_57 rfl rfl (Nat.le_of_ble_eq_true rfl) rfl (Nat.le_of_ble_eq_true rfl) dL_497 hcn hsn ?_
      refine Ci.mono h ?_
      intro x19 M19 h
      refine VL_aload_n (pc := 500) dL_500 rfl ?_
      refine VL_aload_n (pc := 501) dL_501 rfl ?_
      refine VL_iload_n (pc := 502) dL_502 rfl ?_
      refine VL_iconst (v := 1) (pc := 503) dL_503 rfl ?_
      refine VL_iadd (pc := 504) dL_504 ?_
      refine VL_sld (pc := 505) dL_505 h.1 ?_
      have h := h.2
      refine VL_aload_n (pc := 506) dL_506 rfl ?_
      refine VL_iload_n (pc := 507) dL_507 rfl ?_
      refine VL_iconst (v := 2) (pc := 508) dL_508 rfl ?_
      refine VL_iadd (pc := 509) dL_509 ?_
      refine VL_sld (pc := 510) dL_510 h.1 ?_
      have h := h.2
      refine VL_aload_n (pc := 511) dL_511 rfl ?_
      refine VL_iload_n (pc := 512) dL_512 rfl ?_
      refine VL_iconst (v := 3) (pc := 513) dL_513 rfl ?_
      refine VL_iadd (pc := 514) dL_514 ?_
      refine VL_sld (pc := 515) dL_515 h.1 ?_
      have h := h.2
      refine VL_callMi [.int (xs (ix (i + 1))), .int (xs (ix (i + 2))), .int (xs (ix (i + 3)))] (k := 4) (pc := 516) kX12_alike (by decide) lL_60 rfl rfl (Nat.le_of_ble_eq_true rfl) rfl (Nat.le_of_ble_eq_true rfl) dL_516 hcn hsn ?_
      refine Ci.mono h ?_
      intro x20 M20 h
      refine VL_icmp_eq (tgt := 1123) (pc := 519) dL_519 rfl (fun c => ?_) (fun c => ?_)
      · have h := h.2
        refine VL_iinc (pc := 1123) dL_1123 rfl (by decide) ?_
        refine VL_lv (lv2 := [(0, .ref b), (1, .ref (G1.2.1 0)), (2, .ref (G2.2.1 0)), (3, .int (i + 6))]) rfl ?_
        refine VL_goto (tgt := 18) (pc := 1126) dL_1126 rfl ?_
        exact h
      · exact absurd h.1 c
    · have h := h.2.2.2.2.2.2.2.2.2.2.1 c
      show VL _ _ _ _ _ _ _ 524 _ _ _ _
      refine VL_aload_n (pc := 524) dL_524 rfl ?_
      refine VL_aload_n (pc := 525) dL_525 rfl ?_
      refine VL_iload_n (pc := 526) dL_526 rfl ?_
      refine VL_iconst (v := 1) (pc := 527) dL_527 rfl ?_
      refine VL_iadd (pc := 528) dL_528 ?_
      refine VL_sld (pc := 529) dL_529 h.1 ?_
      have h := h.2
      refine VL_aload_n (pc := 530) dL_530 rfl ?_
      refine VL_iload_n (pc := 531) dL_531 rfl ?_
      refine VL_iconst (v := 2) (pc := 532) dL_532 rfl ?_
      refine VL_iadd (pc := 533) dL_533 ?_
      refine VL_sld (pc := 534) dL_534 h.1 ?_
      have h := h.2
      refine VL_aload_n (pc := 535) dL_535 rfl ?_
      refine VL_iload_n (pc := 536) dL_536 rfl ?_
      refine VL_iconst (v := 3) (pc := 537) dL_537 rfl ?_
      refine VL_iadd (pc := 538) dL_538 ?_
      refine VL_sld (pc := 539) dL_539 h.1 ?_
      have h := h.2
      refine VL_callCi [.int (xs (ix (i + 1))), .int (xs (ix (i + 2))), .int (xs (ix (i + 3)))] (k := 2) (pc := 540) kX11_today (by decide) lL_61 rfl rfl (Nat.le_of_ble_eq_true rfl) rfl (Nat.le_of_ble_eq_true rfl) dL_540 hcn hsn ?_
      refine Ci.mono h ?_
      intro x21 M21 h
      refine VL_aload_n (pc := 543) dL_543 rfl ?_
      refine VL_aload_n (pc := 544) dL_544 rfl ?_
      refine VL_iload_n (pc := 545) dL_545 rfl ?_
      refine VL_iconst (v := 1) (pc := 546) dL_546 rfl ?_
      refine VL_iadd (pc := 547) dL_547 ?_
      refine VL_sld (pc := 548) dL_548 h.1 ?_
      have h := h.2
      refine VL_aload_n (pc := 549) dL_549 rfl ?_
      refine VL_iload_n (pc := 550) dL_550 rfl ?_
      refine VL_iconst (v := 2) (pc := 551) dL_551 rfl ?_
      refine VL_iadd (pc := 552) dL_552 ?_
      refine VL_sld (pc := 553) dL_553 h.1 ?_
      have h := h.2
      refine VL_aload_n (pc := 554) dL_554 rfl ?_
      refine VL_iload_n (pc := 555) dL_555 rfl ?_
      refine VL_iconst (v := 3) (pc := 556) dL_556 rfl ?_
      refine VL_iadd (pc := 557) dL_557 ?_
      refine VL_sld (pc := 558) dL_558 h.1 ?_
      have h := h.2
      refine VL_callMi [.int (xs (ix (i + 1))), .int (xs (ix (i + 2))), .int (xs (ix (i + 3)))] (k := 2) (pc := 559) kX12_today (by decide) lL_64 rfl rfl (Nat.le_of_ble_eq_true rfl) rfl (Nat.le_of_ble_eq_true rfl) dL_559 hcn hsn ?_
      refine Ci.mono h ?_
      intro x22 M22 h
      refine VL_icmp_eq (tgt := 1123) (pc := 562) dL_562 rfl (fun c => ?_) (fun c => ?_)
      · have h := h.2
        refine VL_iinc (pc := 1123) dL_1123 rfl (by decide) ?_
        refine VL_lv (lv2 := [(0, .ref b), (1, .ref (G1.2.1 0)), (2, .ref (G2.2.1 0)), (3, .int (i + 6))]) rfl ?_
        refine VL_goto (tgt := 18) (pc := 1126) dL_1126 rfl ?_
        exact h
      · exact absurd h.1 c
    · have h := h.2.2.2.2.2.2.2.2.2.2.2.1 c
      show VL _ _ _ _ _ _ _ 567 _ _ _ _
      refine VL_aload_n (pc := 567) dL_567 rfl ?_
      refine VL_callCi [] (k := 2) (pc := 568) kX11_quarrels (by decide) lL_65 rfl rfl (Nat.le_of_ble_eq_true rfl) rfl (Nat.le_of_ble_eq_true rfl) dL_568 hcn hsn ?_
      refine Ci.mono h ?_
      intro x23 M23 h
      refine VL_aload_n (pc := 571) dL_571 rfl ?_
      refine VL_callMi [] (k := 0) (pc := 572) kX12_quarrels (by decide) lL_68 rfl rfl (Nat.le_of_ble_eq_true rfl) rfl (Nat.le_of_ble_eq_true rfl) dL_572 hcn hsn ?_
      refine Ci.mono h ?_
      intro x24 M24 h
      refine VL_icmp_eq (tgt := 1123) (pc := 575) dL_575 rfl (fun c => ?_) (fun c => ?_)
      · have h := h.2
        refine VL_iinc (pc := 1123) dL_1123 rfl (by decide) ?_
        refine VL_lv (lv2 := [(0, .ref b), (1, .ref (G1.2.1 0)), (2, .ref (G2.2.1 0)), (3, .int (i + 6))]) rfl ?_
        refine VL_goto (tgt := 18) (pc := 1126) dL_1126 rfl ?_
        exact h
      · exact absurd h.1 c
    · have h := h.2.2.2.2.2.2.2.2.2.2.2.2.1 c
      show VL _ _ _ _ _ _ _ 580 _ _ _ _
      refine VL_aload_n (pc := 580) dL_580 rfl ?_
      refine VL_aload_n (pc := 581) dL_581 rfl ?_
      refine VL_iload_n (pc := 582) dL_582 rfl ?_
      refine VL_iconst (v := 1) (pc := 583) dL_583 rfl ?_
      refine VL_iadd (pc := 584) dL_584 ?_
      refine VL_sld (pc := 585) dL_585 h.1 ?_
      have h := h.2
      refine VL_aload_n (pc := 586) dL_586 rfl ?_
      refine VL_iload_n (pc := 587) dL_587 rfl ?_
      refine VL_iconst (v := 2) (pc := 588) dL_588 rfl ?_
      refine VL_iadd (pc := 589) dL_589 ?_
      refine VL_sld (pc := 590) dL_590 h.1 ?_
      have h := h.2
      refine VL_aload_n (pc := 591) dL_591 rfl ?_
      refine VL_iload_n (pc := 592) dL_592 rfl ?_
      refine VL_iconst (v := 3) (pc := 593) dL_593 rfl ?_
      refine VL_iadd (pc := 594) dL_594 ?_
      refine VL_sld (pc := 595) dL_595 h.1 ?_
      have h := h.2
      refine VL_callCi [.int (xs (ix (i + 1))), .int (xs (ix (i + 2))), .int (xs (ix (i + 3)))] (k := 3) (pc := 596) kX11_walks (by decide) lL_69 rfl rfl (Nat.le_of_ble_eq_true rfl) rfl (Nat.le_of_ble_eq_true rfl) dL_596 hcn hsn ?_
      refine Ci.mono h ?_
      intro x25 M25 h
      refine VL_aload_n (pc := 599) dL_599 rfl ?_
      refine VL_aload_n (pc := 600) dL_600 rfl ?_
      refine VL_iload_n (pc := 601) dL_601 rfl ?_
      refine VL_iconst (v := 1) (pc := 602) dL_602 rfl ?_
      refine VL_iadd (pc := 603) dL_603 ?_
      refine VL_sld (pc := 604) dL_604 h.1 ?_
      have h := h.2
      refine VL_aload_n (pc := 605) dL_605 rfl ?_
      refine VL_iload_n (pc := 606) dL_606 rfl ?_
      refine VL_iconst (v := 2) (pc := 607) dL_607 rfl ?_
      refine VL_iadd (pc := 608) dL_608 ?_
      refine VL_sld (pc := 609) dL_609 h.1 ?_
      have h := h.2
      refine VL_aload_n (pc := 610) dL_610 rfl ?_
      refine VL_iload_n (pc := 611) dL_611 rfl ?_
      refine VL_iconst (v := 3) (pc := 612) dL_612 rfl ?_
      refine VL_iadd (pc := 613) dL_613 ?_
      refine VL_sld (pc := 614) dL_614 h.1 ?_
      have h := h.2
      refine VL_callMi [.int (xs (ix (i + 1))), .int (xs (ix (i + 2))), .int (xs (ix (i + 3)))] (k := 2) (pc := 615) kX12_walks (by decide) lL_72 rfl rfl (Nat.le_of_ble_eq_true rfl) rfl (Nat.le_of_ble_eq_true rfl) dL_615 hcn hsn ?_
      refine Ci.mono h ?_
      intro x26 M26 h
      refine VL_icmp_eq (tgt := 1123) (pc := 618) dL_618 rfl (fun c => ?_) (fun c => ?_)
      · have h := h.2
        refine VL_iinc (pc := 1123) dL_1123 rfl (by decide) ?_
        refine VL_lv (lv2 := [(0, .ref b), (1, .ref (G1.2.1 0)), (2, .ref (G2.2.1 0)), (3, .int (i + 6))]) rfl ?_
        refine VL_goto (tgt := 18) (pc := 1126) dL_1126 rfl ?_
        exact h
      · exact absurd h.1 c
    · have h := h.2.2.2.2.2.2.2.2.2.2.2.2.2.1 c
      show VL _ _ _ _ _ _ _ 623 _ _ _ _
      refine VL_aload_n (pc := 623) dL_623 rfl ?_
      refine VL_aload_n (pc := 624) dL_624 rfl ?_
      refine VL_iload_n (pc := 625) dL_625 rfl ?_
      refine VL_iconst (v := 1) (pc := 626) dL_626 rfl ?_
      refine VL_iadd (pc := 627) dL_627 ?_
      refine VL_sld (pc := 628) dL_628 h.1 ?_
      have h := h.2
      refine VL_callCl [.int (xs (ix (i + 1)))] (k := 7) (pc := 629) kX11_joined (by decide) lL_73 rfl rfl (Nat.le_of_ble_eq_true rfl) rfl (Nat.le_of_ble_eq_true rfl) dL_629 hcn hsn ?_
      refine Cl.mono h ?_
      intro x27 M27 h
      refine VL_aload_n (pc := 632) dL_632 rfl ?_
      refine VL_aload_n (pc := 633) dL_633 rfl ?_
      refine VL_iload_n (pc := 634) dL_634 rfl ?_
      refine VL_iconst (v := 1) (pc := 635) dL_635 rfl ?_
      refine VL_iadd (pc := 636) dL_636 ?_
      refine VL_sld (pc := 637) dL_637 h.1 ?_
      have h := h.2
      refine VL_callMl [.int (xs (ix (i + 1)))] (k := 5) (pc := 638) kX12_joined (by decide) lL_77 rfl rfl (Nat.le_of_ble_eq_true rfl) rfl (Nat.le_of_ble_eq_true rfl) dL_638 hcn hsn ?_
      refine Cl.mono h ?_
      intro x28 M28 h
      refine VL_lif_eq (tgt := 1123) (pc := 641) dL_641 dL_642 rfl (fun c => ?_) (fun c => ?_)
      · have h := h.2
        refine VL_iinc (pc := 1123) dL_1123 rfl (by decide) ?_
        refine VL_lv (lv2 := [(0, .ref b), (1, .ref (G1.2.1 0)), (2, .ref (G2.2.1 0)), (3, .int (i + 6))]) rfl ?_
        refine VL_goto (tgt := 18) (pc := 1126) dL_1126 rfl ?_
        exact h
      · exact absurd h.1 c
    · have h := h.2.2.2.2.2.2.2.2.2.2.2.2.2.2.1 c
      show VL _ _ _ _ _ _ _ 647 _ _ _ _
      refine VL_aload_n (pc := 647) dL_647 rfl ?_
      refine VL_aload_n (pc := 648) dL_648 rfl ?_
      refine VL_iload_n (pc := 649) dL_649 rfl ?_
      refine VL_iconst (v := 1) (pc := 650) dL_650 rfl ?_
      refine VL_iadd (pc := 651) dL_651 ?_
      refine VL_sld (pc := 652) dL_652 h.1 ?_
      have h := h.2
      refine VL_callCi [.int (xs (ix (i + 1)))] (k := 7) (pc := 653) kX11_person (by decide) lL_78 rfl rfl (Nat.le_of_ble_eq_true rfl) rfl (Nat.le_of_ble_eq_true rfl) dL_653 hcn hsn ?_
      refine Ci.mono h ?_
      intro x29 M29 h
      refine VL_aload_n (pc := 656) dL_656 rfl ?_
      refine VL_aload_n (pc := 657) dL_657 rfl ?_
      refine VL_iload_n (pc := 658) dL_658 rfl ?_
      refine VL_iconst (v := 1) (pc := 659) dL_659 rfl ?_
      refine VL_iadd (pc := 660) dL_660 ?_
      refine VL_sld (pc := 661) dL_661 h.1 ?_
      have h := h.2
      refine VL_callMi [.int (xs (ix (i + 1)))] (k := 5) (pc := 662) kX12_person (by decide) lL_81 rfl rfl (Nat.le_of_ble_eq_true rfl) rfl (Nat.le_of_ble_eq_true rfl) dL_662 hcn hsn ?_
      refine Ci.mono h ?_
      intro x30 M30 h
      refine VL_icmp_eq (tgt := 1123) (pc := 665) dL_665 rfl (fun c => ?_) (fun c => ?_)
      · have h := h.2
        refine VL_iinc (pc := 1123) dL_1123 rfl (by decide) ?_
        refine VL_lv (lv2 := [(0, .ref b), (1, .ref (G1.2.1 0)), (2, .ref (G2.2.1 0)), (3, .int (i + 6))]) rfl ?_
        refine VL_goto (tgt := 18) (pc := 1126) dL_1126 rfl ?_
        exact h
      · exact absurd h.1 c
    · have h := h.2.2.2.2.2.2.2.2.2.2.2.2.2.2.2.1 c
      show VL _ _ _ _ _ _ _ 670 _ _ _ _
      refine VL_aload_n (pc := 670) dL_670 rfl ?_
      refine VL_aload_n (pc := 671) dL_671 rfl ?_
      refine VL_iload_n (pc := 672) dL_672 rfl ?_
      refine VL_iconst (v := 1) (pc := 673) dL_673 rfl ?_
      refine VL_iadd (pc := 674) dL_674 ?_
      refine VL_sld (pc := 675) dL_675 h.1 ?_
      have h := h.2
      refine VL_aload_n (pc := 676) dL_676 rfl ?_
      refine VL_iload_n (pc := 677) dL_677 rfl ?_
      refine VL_iconst (v := 2) (pc := 678) dL_678 rfl ?_
      refine VL_iadd (pc := 679) dL_679 ?_
      refine VL_sld (pc := 680) dL_680 h.1 ?_
      have h := h.2
      refine VL_callCl [.int (xs (ix (i + 1))), .int (xs (ix (i + 2)))] (k := 7) (pc := 681) kX11_sure (by decide) lL_82 rfl rfl (Nat.le_of_ble_eq_true rfl) rfl (Nat.le_of_ble_eq_true rfl) dL_681 hcn hsn ?_
      refine Cl.mono h ?_
      intro x31 M31 h
      refine VL_aload_n (pc := 684) dL_684 rfl ?_
      refine VL_aload_n (pc := 685) dL_685 rfl ?_
      refine VL_iload_n (pc := 686) dL_686 rfl ?_
      refine VL_iconst (v := 1) (pc := 687) dL_687 rfl ?_
      refine VL_iadd (pc := 688) dL_688 ?_
      refine VL_sld (pc := 689) dL_689 h.1 ?_
      have h := h.2
      refine VL_aload_n (pc := 690) dL_690 rfl ?_
      refine VL_iload_n (pc := 691) dL_691 rfl ?_
      refine VL_iconst (v := 2) (pc := 692) dL_692 rfl ?_
      refine VL_iadd (pc := 693) dL_693 ?_
      refine VL_sld (pc := 694) dL_694 h.1 ?_
      have h := h.2
      refine VL_callMl [.int (xs (ix (i + 1))), .int (xs (ix (i + 2)))] (k := 5) (pc := 695) kX12_sure (by decide) lL_86 rfl rfl (Nat.le_of_ble_eq_true rfl) rfl (Nat.le_of_ble_eq_true rfl) dL_695 hcn hsn ?_
      refine Cl.mono h ?_
      intro x32 M32 h
      refine VL_lif_eq (tgt := 1123) (pc := 698) dL_698 dL_699 rfl (fun c => ?_) (fun c => ?_)
      · have h := h.2
        refine VL_iinc (pc := 1123) dL_1123 rfl (by decide) ?_
        refine VL_lv (lv2 := [(0, .ref b), (1, .ref (G1.2.1 0)), (2, .ref (G2.2.1 0)), (3, .int (i + 6))]) rfl ?_
        refine VL_goto (tgt := 18) (pc := 1126) dL_1126 rfl ?_
        exact h
      · exact absurd h.1 c
    · have h := h.2.2.2.2.2.2.2.2.2.2.2.2.2.2.2.2.1 c
      show VL _ _ _ _ _ _ _ 704 _ _ _ _
      refine VL_aload_n (pc := 704) dL_704 rfl ?_
      refine VL_aload_n (pc := 705) dL_705 rfl ?_
      refine VL_iload_n (pc := 706) dL_706 rfl ?_
      refine VL_iconst (v := 1) (pc := 707) dL_707 rfl ?_
      refine VL_iadd (pc := 708) dL_708 ?_
      refine VL_sld (pc := 709) dL_709 h.1 ?_
      have h := h.2
      refine VL_aload_n (pc := 710) dL_710 rfl ?_
      refine VL_iload_n (pc := 711) dL_711 rfl ?_
      refine VL_iconst (v := 2) (pc := 712) dL_712 rfl ?_
      refine VL_iadd (pc := 713) dL_713 ?_
      refine VL_sld (pc := 714) dL_714 h.1 ?_
      have h := h.2
      refine VL_callCi [.int (xs (ix (i + 1))), .int (xs (ix (i + 2)))] (k := 7) (pc := 715) kX11_stay (by decide) lL_87 rfl rfl (Nat.le_of_ble_eq_true rfl) rfl (Nat.le_of_ble_eq_true rfl) dL_715 hcn hsn ?_
      refine Ci.mono h ?_
      intro x33 M33 h
      refine VL_aload_n (pc := 718) dL_718 rfl ?_
      refine VL_aload_n (pc := 719) dL_719 rfl ?_
      refine VL_iload_n (pc := 720) dL_720 rfl ?_
      refine VL_iconst (v := 1) (pc := 721) dL_721 rfl ?_
      refine VL_iadd (pc := 722) dL_722 ?_
      refine VL_sld (pc := 723) dL_723 h.1 ?_
      have h := h.2
      refine VL_aload_n (pc := 724) dL_724 rfl ?_
      refine VL_iload_n (pc := 725) dL_725 rfl ?_
      refine VL_iconst (v := 2) (pc := 726) dL_726 rfl ?_
      refine VL_iadd (pc := 727) dL_727 ?_
      refine VL_sld (pc := 728) dL_728 h.1 ?_
      have h := h.2
      refine VL_callMi [.int (xs (ix (i + 1))), .int (xs (ix (i + 2)))] (k := 5) (pc := 729) kX12_stay (by decide) lL_90 rfl rfl (Nat.le_of_ble_eq_true rfl) rfl (Nat.le_of_ble_eq_true rfl) dL_729 hcn hsn ?_
      refine Ci.mono h ?_
      intro x34 M34 h
      refine VL_icmp_eq (tgt := 1123) (pc := 732) dL_732 rfl (fun c => ?_) (fun c => ?_)
      · have h := h.2
        refine VL_iinc (pc := 1123) dL_1123 rfl (by decide) ?_
        refine VL_lv (lv2 := [(0, .ref b), (1, .ref (G1.2.1 0)), (2, .ref (G2.2.1 0)), (3, .int (i + 6))]) rfl ?_
        refine VL_goto (tgt := 18) (pc := 1126) dL_1126 rfl ?_
        exact h
      · exact absurd h.1 c
    · have h := h.2.2.2.2.2.2.2.2.2.2.2.2.2.2.2.2.2.1 c
      show VL _ _ _ _ _ _ _ 737 _ _ _ _
      refine VL_aload_n (pc := 737) dL_737 rfl ?_
      refine VL_aload_n (pc := 738) dL_738 rfl ?_
      refine VL_iload_n (pc := 739) dL_739 rfl ?_
      refine VL_iconst (v := 1) (pc := 740) dL_740 rfl ?_
      refine VL_iadd (pc := 741) dL_741 ?_
      refine VL_sld (pc := 742) dL_742 h.1 ?_
      have h := h.2
      refine VL_aload_n (pc := 743) dL_743 rfl ?_
      refine VL_iload_n (pc := 744) dL_744 rfl ?_
      refine VL_iconst (v := 2) (pc := 745) dL_745 rfl ?_
      refine VL_iadd (pc := 746) dL_746 ?_
      refine VL_sld (pc := 747) dL_747 h.1 ?_
      have h := h.2
      refine VL_aload_n (pc := 748) dL_748 rfl ?_
      refine VL_iload_n (pc := 749) dL_749 rfl ?_
      refine VL_iconst (v := 3) (pc := 750) dL_750 rfl ?_
      refine VL_iadd (pc := 751) dL_751 ?_
      refine VL_sld (pc := 752) dL_752 h.1 ?_
      have h := h.2
      refine VL_aload_n (pc := 753) dL_753 rfl ?_
      refine VL_iload_n (pc := 754) dL_754 rfl ?_
      refine VL_iconst (v := 4) (pc := 755) dL_755 rfl ?_
      refine VL_iadd (pc := 756) dL_756 ?_
      refine VL_sld (pc := 757) dL_757 h.1 ?_
      have h := h.2
      refine VL_callCi [.int (xs (ix (i + 1))), .int (xs (ix (i + 2))), .int (xs (ix (i + 3))), .int (xs (ix (i + 4)))] (k := 4) (pc := 758) kX11_lost (by decide) lL_91 rfl rfl (Nat.le_of_ble_eq_true rfl) rfl (Nat.le_of_ble_eq_true rfl) dL_758 hcn hsn ?_
      refine Ci.mono h ?_
      intro x35 M35 h
      refine VL_aload_n (pc := 761) dL_761 rfl ?_
      refine VL_aload_n (pc := 762) dL_762 rfl ?_
      refine VL_iload_n (pc := 763) dL_763 rfl ?_
      refine VL_iconst (v := 1) (pc := 764) dL_764 rfl ?_
      refine VL_iadd (pc := 765) dL_765 ?_
      refine VL_sld (pc := 766) dL_766 h.1 ?_
      have h := h.2
      refine VL_aload_n (pc := 767) dL_767 rfl ?_
      refine VL_iload_n (pc := 768) dL_768 rfl ?_
      refine VL_iconst (v := 2) (pc := 769) dL_769 rfl ?_
      refine VL_iadd (pc := 770) dL_770 ?_
      refine VL_sld (pc := 771) dL_771 h.1 ?_
      have h := h.2
      refine VL_aload_n (pc := 772) dL_772 rfl ?_
      refine VL_iload_n (pc := 773) dL_773 rfl ?_
      refine VL_iconst (v := 3) (pc := 774) dL_774 rfl ?_
      refine VL_iadd (pc := 775) dL_775 ?_
      refine VL_sld (pc := 776) dL_776 h.1 ?_
      have h := h.2
      refine VL_aload_n (pc := 777) dL_777 rfl ?_
      refine VL_iload_n (pc := 778) dL_778 rfl ?_
      refine VL_iconst (v := 4) (pc := 779) dL_779 rfl ?_
      refine VL_iadd (pc := 780) dL_780 ?_
      refine VL_sld (pc := 781) dL_781 h.1 ?_
      have h := h.2
      refine VL_callMi [.int (xs (ix (i + 1))), .int (xs (ix (i + 2))), .int (xs (ix (i + 3))), .int (xs (ix (i + 4)))] (k := 4) (pc := 782) kX12_lost (by decide) lL_95 rfl rfl (Nat.le_of_ble_eq_true rfl) rfl (Nat.le_of_ble_eq_true rfl) dL_782 hcn hsn ?_
      refine Ci.mono h ?_
      intro x36 M36 h
      refine VL_icmp_eq (tgt := 1123) (pc := 785) dL_785 rfl (fun c => ?_) (fun c => ?_)
      · have h := h.2
        refine VL_iinc (pc := 1123) dL_1123 rfl (by decide) ?_
        refine VL_lv (lv2 := [(0, .ref b), (1, .ref (G1.2.1 0)), (2, .ref (G2.2.1 0)), (3, .int (i + 6))]) rfl ?_
        refine VL_goto (tgt := 18) (pc := 1126) dL_1126 rfl ?_
        exact h
      · exact absurd h.1 c
    · have h := h.2.2.2.2.2.2.2.2.2.2.2.2.2.2.2.2.2.2.1 c
      show VL _ _ _ _ _ _ _ 790 _ _ _ _
      refine VL_aload_n (pc := 790) dL_790 rfl ?_
      refine VL_aload_n (pc := 791) dL_791 rfl ?_
      refine VL_iload_n (pc := 792) dL_792 rfl ?_
      refine VL_iconst (v := 1) (pc := 793) dL_793 rfl ?_
      refine VL_iadd (pc := 794) dL_794 ?_
      refine VL_sld (pc := 795) dL_795 h.1 ?_
      have h := h.2
      refine VL_aload_n (pc := 796) dL_796 rfl ?_
      refine VL_iload_n (pc := 797) dL_797 rfl ?_
      refine VL_iconst (v := 2) (pc := 798) dL_798 rfl ?_
      refine VL_iadd (pc := 799) dL_799 ?_
      refine VL_sld (pc := 800) dL_800 h.1 ?_
      have h := h.2
      refine VL_aload_n (pc := 801) dL_801 rfl ?_
      refine VL_iload_n (pc := 802) dL_802 rfl ?_
      refine VL_iconst (v := 3) (pc := 803) dL_803 rfl ?_
      refine VL_iadd (pc := 804) dL_804 ?_
      refine VL_sld (pc := 805) dL_805 h.1 ?_
      have h := h.2
      refine VL_aload_n (pc := 806) dL_806 rfl ?_
      refine VL_iload_n (pc := 807) dL_807 rfl ?_
      refine VL_iconst (v := 4) (pc := 808) dL_808 rfl ?_
      refine VL_iadd (pc := 809) dL_809 ?_
      refine VL_sld (pc := 810) dL_810 h.1 ?_
      have h := h.2
      refine VL_aload_n (pc := 811) dL_811 rfl ?_
      refine VL_iload_n (pc := 812) dL_812 rfl ?_
      refine VL_iconst (v := 5) (pc := 813) dL_813 rfl ?_
      refine VL_iadd (pc := 814) dL_814 ?_
      refine VL_sld (pc := 815) dL_815 h.1 ?_
      have h := h.2
      refine VL_callCi [.int (xs (ix (i + 1))), .int (xs (ix (i + 2))), .int (xs (ix (i + 3))), .int (xs (ix (i + 4))), .int (xs (ix (i + 5)))] (k := 4) (pc := 816) kX11_found (by decide) lL_96 rfl rfl (Nat.le_of_ble_eq_true rfl) rfl (Nat.le_of_ble_eq_true rfl) dL_816 hcn hsn ?_
      refine Ci.mono h ?_
      intro x37 M37 h
      refine VL_aload_n (pc := 819) dL_819 rfl ?_
      refine VL_aload_n (pc := 820) dL_820 rfl ?_
      refine VL_iload_n (pc := 821) dL_821 rfl ?_
      refine VL_iconst (v := 1) (pc := 822) dL_822 rfl ?_
      refine VL_iadd (pc := 823) dL_823 ?_
      refine VL_sld (pc := 824) dL_824 h.1 ?_
      have h := h.2
      refine VL_aload_n (pc := 825) dL_825 rfl ?_
      refine VL_iload_n (pc := 826) dL_826 rfl ?_
      refine VL_iconst (v := 2) (pc := 827) dL_827 rfl ?_
      refine VL_iadd (pc := 828) dL_828 ?_
      refine VL_sld (pc := 829) dL_829 h.1 ?_
      have h := h.2
      refine VL_aload_n (pc := 830) dL_830 rfl ?_
      refine VL_iload_n (pc := 831) dL_831 rfl ?_
      refine VL_iconst (v := 3) (pc := 832) dL_832 rfl ?_
      refine VL_iadd (pc := 833) dL_833 ?_
      refine VL_sld (pc := 834) dL_834 h.1 ?_
      have h := h.2
      refine VL_aload_n (pc := 835) dL_835 rfl ?_
      refine VL_iload_n (pc := 836) dL_836 rfl ?_
      refine VL_iconst (v := 4) (pc := 837) dL_837 rfl ?_
      refine VL_iadd (pc := 838) dL_838 ?_
      refine VL_sld (pc := 839) dL_839 h.1 ?_
      have h := h.2
      refine VL_aload_n (pc := 840) dL_840 rfl ?_
      refine VL_iload_n (pc := 841) dL_841 rfl ?_
      refine VL_iconst (v := 5) (pc := 842) dL_842 rfl ?_
      refine VL_iadd (pc := 843) dL_843 ?_
      refine VL_sld (pc := 844) dL_844 h.1 ?_
      have h := h.2
      refine VL_callMi [.int (xs (ix (i + 1))), .int (xs (ix (i + 2))), .int (xs (ix (i + 3))), .int (xs (ix (i + 4))), .int (xs (ix (i + 5)))] (k := 4) (pc := 845) kX12_found (by decide) lL_99 rfl rfl (Nat.le_of_ble_eq_true rfl) rfl (Nat.le_of_ble_eq_true rfl) dL_845 hcn hsn ?_
      refine Ci.mono h ?_
      intro x38 M38 h
      refine VL_icmp_eq (tgt := 1123) (pc := 848) dL_848 rfl (fun c => ?_) (fun c => ?_)
      · have h := h.2
        refine VL_iinc (pc := 1123) dL_1123 rfl (by decide) ?_
        refine VL_lv (lv2 := [(0, .ref b), (1, .ref (G1.2.1 0)), (2, .ref (G2.2.1 0)), (3, .int (i + 6))]) rfl ?_
        refine VL_goto (tgt := 18) (pc := 1126) dL_1126 rfl ?_
        exact h
      · exact absurd h.1 c
    · have h := h.2.2.2.2.2.2.2.2.2.2.2.2.2.2.2.2.2.2.2.1 c
      show VL _ _ _ _ _ _ _ 853 _ _ _ _
      refine VL_aload_n (pc := 853) dL_853 rfl ?_
      refine VL_aload_n (pc := 854) dL_854 rfl ?_
      refine VL_iload_n (pc := 855) dL_855 rfl ?_
      refine VL_iconst (v := 1) (pc := 856) dL_856 rfl ?_
      refine VL_iadd (pc := 857) dL_857 ?_
      refine VL_sld (pc := 858) dL_858 h.1 ?_
      have h := h.2
      refine VL_aload_n (pc := 859) dL_859 rfl ?_
      refine VL_iload_n (pc := 860) dL_860 rfl ?_
      refine VL_iconst (v := 2) (pc := 861) dL_861 rfl ?_
      refine VL_iadd (pc := 862) dL_862 ?_
      refine VL_sld (pc := 863) dL_863 h.1 ?_
      have h := h.2
      refine VL_aload_n (pc := 864) dL_864 rfl ?_
      refine VL_iload_n (pc := 865) dL_865 rfl ?_
      refine VL_iconst (v := 3) (pc := 866) dL_866 rfl ?_
      refine VL_iadd (pc := 867) dL_867 ?_
      refine VL_sld (pc := 868) dL_868 h.1 ?_
      have h := h.2
      refine VL_callCi [.int (xs (ix (i + 1))), .int (xs (ix (i + 2))), .int (xs (ix (i + 3)))] (k := 3) (pc := 869) kX11_missing (by decide) lL_100 rfl rfl (Nat.le_of_ble_eq_true rfl) rfl (Nat.le_of_ble_eq_true rfl) dL_869 hcn hsn ?_
      refine Ci.mono h ?_
      intro x39 M39 h
      refine VL_aload_n (pc := 872) dL_872 rfl ?_
      refine VL_aload_n (pc := 873) dL_873 rfl ?_
      refine VL_iload_n (pc := 874) dL_874 rfl ?_
      refine VL_iconst (v := 1) (pc := 875) dL_875 rfl ?_
      refine VL_iadd (pc := 876) dL_876 ?_
      refine VL_sld (pc := 877) dL_877 h.1 ?_
      have h := h.2
      refine VL_aload_n (pc := 878) dL_878 rfl ?_
      refine VL_iload_n (pc := 879) dL_879 rfl ?_
      refine VL_iconst (v := 2) (pc := 880) dL_880 rfl ?_
      refine VL_iadd (pc := 881) dL_881 ?_
      refine VL_sld (pc := 882) dL_882 h.1 ?_
      have h := h.2
      refine VL_aload_n (pc := 883) dL_883 rfl ?_
      refine VL_iload_n (pc := 884) dL_884 rfl ?_
      refine VL_iconst (v := 3) (pc := 885) dL_885 rfl ?_
      refine VL_iadd (pc := 886) dL_886 ?_
      refine VL_sld (pc := 887) dL_887 h.1 ?_
      have h := h.2
      refine VL_callMi [.int (xs (ix (i + 1))), .int (xs (ix (i + 2))), .int (xs (ix (i + 3)))] (k := 3) (pc := 888) kX12_missing (by decide) lL_103 rfl rfl (Nat.le_of_ble_eq_true rfl) rfl (Nat.le_of_ble_eq_true rfl) dL_888 hcn hsn ?_
      refine Ci.mono h ?_
      intro x40 M40 h
      refine VL_icmp_eq (tgt := 1123) (pc := 891) dL_891 rfl (fun c => ?_) (fun c => ?_)
      · have h := h.2
        refine VL_iinc (pc := 1123) dL_1123 rfl (by decide) ?_
        refine VL_lv (lv2 := [(0, .ref b), (1, .ref (G1.2.1 0)), (2, .ref (G2.2.1 0)), (3, .int (i + 6))]) rfl ?_
        refine VL_goto (tgt := 18) (pc := 1126) dL_1126 rfl ?_
        exact h
      · exact absurd h.1 c
    · have h := h.2.2.2.2.2.2.2.2.2.2.2.2.2.2.2.2.2.2.2.2.1 c
      show VL _ _ _ _ _ _ _ 896 _ _ _ _
      refine VL_aload_n (pc := 896) dL_896 rfl ?_
      refine VL_aload_n (pc := 897) dL_897 rfl ?_
      refine VL_iload_n (pc := 898) dL_898 rfl ?_
      refine VL_iconst (v := 1) (pc := 899) dL_899 rfl ?_
      refine VL_iadd (pc := 900) dL_900 ?_
      refine VL_sld (pc := 901) dL_901 h.1 ?_
      have h := h.2
      refine VL_aload_n (pc := 902) dL_902 rfl ?_
      refine VL_iload_n (pc := 903) dL_903 rfl ?_
      refine VL_iconst (v := 2) (pc := 904) dL_904 rfl ?_
      refine VL_iadd (pc := 905) dL_905 ?_
      refine VL_sld (pc := 906) dL_906 h.1 ?_
      have h := h.2
      refine VL_callCi [.int (xs (ix (i + 1))), .int (xs (ix (i + 2)))] (k := 1) (pc := 907) kX11_shown (by decide) lL_104 rfl rfl (Nat.le_of_ble_eq_true rfl) rfl (Nat.le_of_ble_eq_true rfl) dL_907 hcn hsn ?_
      refine Ci.mono h ?_
      intro x41 M41 h
      refine VL_aload_n (pc := 910) dL_910 rfl ?_
      refine VL_aload_n (pc := 911) dL_911 rfl ?_
      refine VL_iload_n (pc := 912) dL_912 rfl ?_
      refine VL_iconst (v := 1) (pc := 913) dL_913 rfl ?_
      refine VL_iadd (pc := 914) dL_914 ?_
      refine VL_sld (pc := 915) dL_915 h.1 ?_
      have h := h.2
      refine VL_aload_n (pc := 916) dL_916 rfl ?_
      refine VL_iload_n (pc := 917) dL_917 rfl ?_
      refine VL_iconst (v := 2) (pc := 918) dL_918 rfl ?_
      refine VL_iadd (pc := 919) dL_919 ?_
      refine VL_sld (pc := 920) dL_920 h.1 ?_
      have h := h.2
      refine VL_callMi [.int (xs (ix (i + 1))), .int (xs (ix (i + 2)))] (k := 2) (pc := 921) kX12_shown (by decide) lL_107 rfl rfl (Nat.le_of_ble_eq_true rfl) rfl (Nat.le_of_ble_eq_true rfl) dL_921 hcn hsn ?_
      refine Ci.mono h ?_
      intro x42 M42 h
      refine VL_icmp_eq (tgt := 1123) (pc := 924) dL_924 rfl (fun c => ?_) (fun c => ?_)
      · have h := h.2
        refine VL_iinc (pc := 1123) dL_1123 rfl (by decide) ?_
        refine VL_lv (lv2 := [(0, .ref b), (1, .ref (G1.2.1 0)), (2, .ref (G2.2.1 0)), (3, .int (i + 6))]) rfl ?_
        refine VL_goto (tgt := 18) (pc := 1126) dL_1126 rfl ?_
        exact h
      · exact absurd h.1 c
    · have h := h.2.2.2.2.2.2.2.2.2.2.2.2.2.2.2.2.2.2.2.2.2.1 c
      show VL _ _ _ _ _ _ _ 929 _ _ _ _
      refine VL_aload_n (pc := 929) dL_929 rfl ?_
      refine VL_aload_n (pc := 930) dL_930 rfl ?_
      refine VL_iload_n (pc := 931) dL_931 rfl ?_
      refine VL_iconst (v := 1) (pc := 932) dL_932 rfl ?_
      refine VL_iadd (pc := 933) dL_933 ?_
      refine VL_sld (pc := 934) dL_934 h.1 ?_
      have h := h.2
      refine VL_aload_n (pc := 935) dL_935 rfl ?_
      refine VL_iload_n (pc := 936) dL_936 rfl ?_
      refine VL_iconst (v := 2) (pc := 937) dL_937 rfl ?_
      refine VL_iadd (pc := 938) dL_938 ?_
      refine VL_sld (pc := 939) dL_939 h.1 ?_
      have h := h.2
      refine VL_callCi [.int (xs (ix (i + 1))), .int (xs (ix (i + 2)))] (k := 1) (pc := 940) kX11_leaf (by decide) lL_108 rfl rfl (Nat.le_of_ble_eq_true rfl) rfl (Nat.le_of_ble_eq_true rfl) dL_940 hcn hsn ?_
      refine Ci.mono h ?_
      intro x43 M43 h
      refine VL_aload_n (pc := 943) dL_943 rfl ?_
      refine VL_aload_n (pc := 944) dL_944 rfl ?_
      refine VL_iload_n (pc := 945) dL_945 rfl ?_
      refine VL_iconst (v := 1) (pc := 946) dL_946 rfl ?_
      refine VL_iadd (pc := 947) dL_947 ?_
      refine VL_sld (pc := 948) dL_948 h.1 ?_
      have h := h.2
      refine VL_aload_n (pc := 949) dL_949 rfl ?_
      refine VL_iload_n (pc := 950) dL_950 rfl ?_
      refine VL_iconst (v := 2) (pc := 951) dL_951 rfl ?_
      refine VL_iadd (pc := 952) dL_952 ?_
      refine VL_sld (pc := 953) dL_953 h.1 ?_
      have h := h.2
      refine VL_callMi [.int (xs (ix (i + 1))), .int (xs (ix (i + 2)))] (k := 2) (pc := 954) kX12_leaf (by decide) lL_111 rfl rfl (Nat.le_of_ble_eq_true rfl) rfl (Nat.le_of_ble_eq_true rfl) dL_954 hcn hsn ?_
      refine Ci.mono h ?_
      intro x44 M44 h
      refine VL_icmp_eq (tgt := 1123) (pc := 957) dL_957 rfl (fun c => ?_) (fun c => ?_)
      · have h := h.2
        refine VL_iinc (pc := 1123) dL_1123 rfl (by decide) ?_
        refine VL_lv (lv2 := [(0, .ref b), (1, .ref (G1.2.1 0)), (2, .ref (G2.2.1 0)), (3, .int (i + 6))]) rfl ?_
        refine VL_goto (tgt := 18) (pc := 1126) dL_1126 rfl ?_
        exact h
      · exact absurd h.1 c
    · have h := h.2.2.2.2.2.2.2.2.2.2.2.2.2.2.2.2.2.2.2.2.2.2.1 c
      show VL _ _ _ _ _ _ _ 962 _ _ _ _
      refine VL_aload_n (pc := 962) dL_962 rfl ?_
      refine VL_callCi [] (k := 3) (pc := 963) kX11_next (by decide) lL_112 rfl rfl (Nat.le_of_ble_eq_true rfl) rfl (Nat.le_of_ble_eq_true rfl) dL_963 hcn hsn ?_
      refine Ci.mono h ?_
      intro x45 M45 h
      refine VL_aload_n (pc := 966) dL_966 rfl ?_
      refine VL_callMi [] (k := 3) (pc := 967) kX12_next (by decide) lL_115 rfl rfl (Nat.le_of_ble_eq_true rfl) rfl (Nat.le_of_ble_eq_true rfl) dL_967 hcn hsn ?_
      refine Ci.mono h ?_
      intro x46 M46 h
      refine VL_icmp_eq (tgt := 1123) (pc := 970) dL_970 rfl (fun c => ?_) (fun c => ?_)
      · have h := h.2
        refine VL_iinc (pc := 1123) dL_1123 rfl (by decide) ?_
        refine VL_lv (lv2 := [(0, .ref b), (1, .ref (G1.2.1 0)), (2, .ref (G2.2.1 0)), (3, .int (i + 6))]) rfl ?_
        refine VL_goto (tgt := 18) (pc := 1126) dL_1126 rfl ?_
        exact h
      · exact absurd h.1 c
    · have h := h.2.2.2.2.2.2.2.2.2.2.2.2.2.2.2.2.2.2.2.2.2.2.2.1 c
      show VL _ _ _ _ _ _ _ 975 _ _ _ _
      refine VL_aload_n (pc := 975) dL_975 rfl ?_
      refine VL_aload_n (pc := 976) dL_976 rfl ?_
      refine VL_iload_n (pc := 977) dL_977 rfl ?_
      refine VL_iconst (v := 1) (pc := 978) dL_978 rfl ?_
      refine VL_iadd (pc := 979) dL_979 ?_
      refine VL_sld (pc := 980) dL_980 h.1 ?_
      have h := h.2
      refine VL_callCi [.int (xs (ix (i + 1)))] (k := 1) (pc := 981) kX11_kind (by decide) lL_116 rfl rfl (Nat.le_of_ble_eq_true rfl) rfl (Nat.le_of_ble_eq_true rfl) dL_981 hcn hsn ?_
      refine Ci.mono h ?_
      intro x47 M47 h
      refine VL_aload_n (pc := 984) dL_984 rfl ?_
      refine VL_aload_n (pc := 985) dL_985 rfl ?_
      refine VL_iload_n (pc := 986) dL_986 rfl ?_
      refine VL_iconst (v := 1) (pc := 987) dL_987 rfl ?_
      refine VL_iadd (pc := 988) dL_988 ?_
      refine VL_sld (pc := 989) dL_989 h.1 ?_
      have h := h.2
      refine VL_callMi [.int (xs (ix (i + 1)))] (k := 2) (pc := 990) kX12_kind (by decide) lL_119 rfl rfl (Nat.le_of_ble_eq_true rfl) rfl (Nat.le_of_ble_eq_true rfl) dL_990 hcn hsn ?_
      refine Ci.mono h ?_
      intro x48 M48 h
      refine VL_icmp_eq (tgt := 1123) (pc := 993) dL_993 rfl (fun c => ?_) (fun c => ?_)
      · have h := h.2
        refine VL_iinc (pc := 1123) dL_1123 rfl (by decide) ?_
        refine VL_lv (lv2 := [(0, .ref b), (1, .ref (G1.2.1 0)), (2, .ref (G2.2.1 0)), (3, .int (i + 6))]) rfl ?_
        refine VL_goto (tgt := 18) (pc := 1126) dL_1126 rfl ?_
        exact h
      · exact absurd h.1 c
    · have h := h.2.2.2.2.2.2.2.2.2.2.2.2.2.2.2.2.2.2.2.2.2.2.2.2.1 c
      show VL _ _ _ _ _ _ _ 998 _ _ _ _
      refine VL_aload_n (pc := 998) dL_998 rfl ?_
      refine VL_aload_n (pc := 999) dL_999 rfl ?_
      refine VL_iload_n (pc := 1000) dL_1000 rfl ?_
      refine VL_iconst (v := 1) (pc := 1001) dL_1001 rfl ?_
      refine VL_iadd (pc := 1002) dL_1002 ?_
      refine VL_sld (pc := 1003) dL_1003 h.1 ?_
      have h := h.2
      refine VL_aload_n (pc := 1004) dL_1004 rfl ?_
      refine VL_iload_n (pc := 1005) dL_1005 rfl ?_
      refine VL_iconst (v := 2) (pc := 1006) dL_1006 rfl ?_
      refine VL_iadd (pc := 1007) dL_1007 ?_
      refine VL_sld (pc := 1008) dL_1008 h.1 ?_
      have h := h.2
      refine VL_callCi [.int (xs (ix (i + 1))), .int (xs (ix (i + 2)))] (k := 2) (pc := 1009) kX11_as (by decide) lL_120 rfl rfl (Nat.le_of_ble_eq_true rfl) rfl (Nat.le_of_ble_eq_true rfl) dL_1009 hcn hsn ?_
      refine Ci.mono h ?_
      intro x49 M49 h
      refine VL_aload_n (pc := 1012) dL_1012 rfl ?_
      refine VL_aload_n (pc := 1013) dL_1013 rfl ?_
      refine VL_iload_n (pc := 1014) dL_1014 rfl ?_
      refine VL_iconst (v := 1) (pc := 1015) dL_1015 rfl ?_
      refine VL_iadd (pc := 1016) dL_1016 ?_
      refine VL_sld (pc := 1017) dL_1017 h.1 ?_
      have h := h.2
      refine VL_aload_n (pc := 1018) dL_1018 rfl ?_
      refine VL_iload_n (pc := 1019) dL_1019 rfl ?_
      refine VL_iconst (v := 2) (pc := 1020) dL_1020 rfl ?_
      refine VL_iadd (pc := 1021) dL_1021 ?_
      refine VL_sld (pc := 1022) dL_1022 h.1 ?_
      have h := h.2
      refine VL_callMi [.int (xs (ix (i + 1))), .int (xs (ix (i + 2)))] (k := 2) (pc := 1023) kX12_as (by decide) lL_123 rfl rfl (Nat.le_of_ble_eq_true rfl) rfl (Nat.le_of_ble_eq_true rfl) dL_1023 hcn hsn ?_
      refine Ci.mono h ?_
      intro x50 M50 h
      refine VL_icmp_eq (tgt := 1123) (pc := 1026) dL_1026 rfl (fun c => ?_) (fun c => ?_)
      · have h := h.2
        refine VL_iinc (pc := 1123) dL_1123 rfl (by decide) ?_
        refine VL_lv (lv2 := [(0, .ref b), (1, .ref (G1.2.1 0)), (2, .ref (G2.2.1 0)), (3, .int (i + 6))]) rfl ?_
        refine VL_goto (tgt := 18) (pc := 1126) dL_1126 rfl ?_
        exact h
      · exact absurd h.1 c
    · have h := h.2.2.2.2.2.2.2.2.2.2.2.2.2.2.2.2.2.2.2.2.2.2.2.2.2.1 c
      show VL _ _ _ _ _ _ _ 1031 _ _ _ _
      refine VL_aload_n (pc := 1031) dL_1031 rfl ?_
      refine VL_aload_n (pc := 1032) dL_1032 rfl ?_
      refine VL_iload_n (pc := 1033) dL_1033 rfl ?_
      refine VL_iconst (v := 1) (pc := 1034) dL_1034 rfl ?_
      refine VL_iadd (pc := 1035) dL_1035 ?_
      refine VL_sld (pc := 1036) dL_1036 h.1 ?_
      have h := h.2
      refine VL_aload_n (pc := 1037) dL_1037 rfl ?_
      refine VL_iload_n (pc := 1038) dL_1038 rfl ?_
      refine VL_iconst (v := 2) (pc := 1039) dL_1039 rfl ?_
      refine VL_iadd (pc := 1040) dL_1040 ?_
      refine VL_sld (pc := 1041) dL_1041 h.1 ?_
      have h := h.2
      refine VL_callCi [.int (xs (ix (i + 1))), .int (xs (ix (i + 2)))] (k := 6) (pc := 1042) kX11_ask (by decide) lL_124 rfl rfl (Nat.le_of_ble_eq_true rfl) rfl (Nat.le_of_ble_eq_true rfl) dL_1042 hcn hsn ?_
      refine Ci.mono h ?_
      intro x51 M51 h
      refine VL_aload_n (pc := 1045) dL_1045 rfl ?_
      refine VL_aload_n (pc := 1046) dL_1046 rfl ?_
      refine VL_iload_n (pc := 1047) dL_1047 rfl ?_
      refine VL_iconst (v := 1) (pc := 1048) dL_1048 rfl ?_
      refine VL_iadd (pc := 1049) dL_1049 ?_
      refine VL_sld (pc := 1050) dL_1050 h.1 ?_
      have h := h.2
      refine VL_aload_n (pc := 1051) dL_1051 rfl ?_
      refine VL_iload_n (pc := 1052) dL_1052 rfl ?_
      refine VL_iconst (v := 2) (pc := 1053) dL_1053 rfl ?_
      refine VL_iadd (pc := 1054) dL_1054 ?_
      refine VL_sld (pc := 1055) dL_1055 h.1 ?_
      have h := h.2
      refine VL_callMi [.int (xs (ix (i + 1))), .int (xs (ix (i + 2)))] (k := 4) (pc := 1056) kX12_ask (by decide) lL_127 rfl rfl (Nat.le_of_ble_eq_true rfl) rfl (Nat.le_of_ble_eq_true rfl) dL_1056 hcn hsn ?_
      refine Ci.mono h ?_
      intro x52 M52 h
      refine VL_icmp_eq (tgt := 1123) (pc := 1059) dL_1059 rfl (fun c => ?_) (fun c => ?_)
      · have h := h.2
        refine VL_iinc (pc := 1123) dL_1123 rfl (by decide) ?_
        refine VL_lv (lv2 := [(0, .ref b), (1, .ref (G1.2.1 0)), (2, .ref (G2.2.1 0)), (3, .int (i + 6))]) rfl ?_
        refine VL_goto (tgt := 18) (pc := 1126) dL_1126 rfl ?_
        exact h
      · exact absurd h.1 c
    · have h := h.2.2.2.2.2.2.2.2.2.2.2.2.2.2.2.2.2.2.2.2.2.2.2.2.2.2.1 c
      show VL _ _ _ _ _ _ _ 1064 _ _ _ _
      refine VL_aload_n (pc := 1064) dL_1064 rfl ?_
      refine VL_aload_n (pc := 1065) dL_1065 rfl ?_
      refine VL_iload_n (pc := 1066) dL_1066 rfl ?_
      refine VL_iconst (v := 1) (pc := 1067) dL_1067 rfl ?_
      refine VL_iadd (pc := 1068) dL_1068 ?_
      refine VL_sld (pc := 1069) dL_1069 h.1 ?_
      have h := h.2
      refine VL_callCi [.int (xs (ix (i + 1)))] (k := 0) (pc := 1070) kX11_trace (by decide) lL_128 rfl rfl (Nat.le_of_ble_eq_true rfl) rfl (Nat.le_of_ble_eq_true rfl) dL_1070 hcn hsn ?_
      refine Ci.mono h ?_
      intro x53 M53 h
      refine VL_aload_n (pc := 1073) dL_1073 rfl ?_
      refine VL_aload_n (pc := 1074) dL_1074 rfl ?_
      refine VL_iload_n (pc := 1075) dL_1075 rfl ?_
      refine VL_iconst (v := 1) (pc := 1076) dL_1076 rfl ?_
      refine VL_iadd (pc := 1077) dL_1077 ?_
      refine VL_sld (pc := 1078) dL_1078 h.1 ?_
      have h := h.2
      refine VL_callMi [.int (xs (ix (i + 1)))] (k := 1) (pc := 1079) kX12_trace (by decide) lL_131 rfl rfl (Nat.le_of_ble_eq_true rfl) rfl (Nat.le_of_ble_eq_true rfl) dL_1079 hcn hsn ?_
      refine Ci.mono h ?_
      intro x54 M54 h
      refine VL_icmp_eq (tgt := 1123) (pc := 1082) dL_1082 rfl (fun c => ?_) (fun c => ?_)
      · have h := h.2
        refine VL_iinc (pc := 1123) dL_1123 rfl (by decide) ?_
        refine VL_lv (lv2 := [(0, .ref b), (1, .ref (G1.2.1 0)), (2, .ref (G2.2.1 0)), (3, .int (i + 6))]) rfl ?_
        refine VL_goto (tgt := 18) (pc := 1126) dL_1126 rfl ?_
        exact h
      · exact absurd h.1 c
    · have h := h.2.2.2.2.2.2.2.2.2.2.2.2.2.2.2.2.2.2.2.2.2.2.2.2.2.2.2.1 c
      show VL _ _ _ _ _ _ _ 1087 _ _ _ _
      refine VL_aload_n (pc := 1087) dL_1087 rfl ?_
      refine VL_aload_n (pc := 1088) dL_1088 rfl ?_
      refine VL_iload_n (pc := 1089) dL_1089 rfl ?_
      refine VL_iconst (v := 1) (pc := 1090) dL_1090 rfl ?_
      refine VL_iadd (pc := 1091) dL_1091 ?_
      refine VL_sld (pc := 1092) dL_1092 h.1 ?_
      have h := h.2
      refine VL_callCi [.int (xs (ix (i + 1)))] (k := 3) (pc := 1093) kX11_count (by decide) lL_132 rfl rfl (Nat.le_of_ble_eq_true rfl) rfl (Nat.le_of_ble_eq_true rfl) dL_1093 hcn hsn ?_
      refine Ci.mono h ?_
      intro x55 M55 h
      refine VL_aload_n (pc := 1096) dL_1096 rfl ?_
      refine VL_aload_n (pc := 1097) dL_1097 rfl ?_
      refine VL_iload_n (pc := 1098) dL_1098 rfl ?_
      refine VL_iconst (v := 1) (pc := 1099) dL_1099 rfl ?_
      refine VL_iadd (pc := 1100) dL_1100 ?_
      refine VL_sld (pc := 1101) dL_1101 h.1 ?_
      have h := h.2
      refine VL_callMi [.int (xs (ix (i + 1)))] (k := 3) (pc := 1102) kX12_count (by decide) lL_135 rfl rfl (Nat.le_of_ble_eq_true rfl) rfl (Nat.le_of_ble_eq_true rfl) dL_1102 hcn hsn ?_
      refine Ci.mono h ?_
      intro x56 M56 h
      refine VL_icmp_eq (tgt := 1123) (pc := 1105) dL_1105 rfl (fun c => ?_) (fun c => ?_)
      · have h := h.2
        refine VL_iinc (pc := 1123) dL_1123 rfl (by decide) ?_
        refine VL_lv (lv2 := [(0, .ref b), (1, .ref (G1.2.1 0)), (2, .ref (G2.2.1 0)), (3, .int (i + 6))]) rfl ?_
        refine VL_goto (tgt := 18) (pc := 1126) dL_1126 rfl ?_
        exact h
      · exact absurd h.1 c
    · have h := h.2.2.2.2.2.2.2.2.2.2.2.2.2.2.2.2.2.2.2.2.2.2.2.2.2.2.2.2.1 c
      show VL _ _ _ _ _ _ _ 1110 _ _ _ _
      refine VL_aload_n (pc := 1110) dL_1110 rfl ?_
      refine VL_callCi [] (k := 0) (pc := 1111) kX11_status (by decide) lL_136 rfl rfl (Nat.le_of_ble_eq_true rfl) rfl (Nat.le_of_ble_eq_true rfl) dL_1111 hcn hsn ?_
      refine Ci.mono h ?_
      intro x57 M57 h
      refine VL_aload_n (pc := 1114) dL_1114 rfl ?_
      refine VL_callMi [] (k := 0) (pc := 1115) kX12_status (by decide) lL_139 rfl rfl (Nat.le_of_ble_eq_true rfl) rfl (Nat.le_of_ble_eq_true rfl) dL_1115 hcn hsn ?_
      refine Ci.mono h ?_
      intro x58 M58 h
      refine VL_icmp_eq (tgt := 1123) (pc := 1118) dL_1118 rfl (fun c => ?_) (fun c => ?_)
      · have h := h.2
        refine VL_iinc (pc := 1123) dL_1123 rfl (by decide) ?_
        refine VL_lv (lv2 := [(0, .ref b), (1, .ref (G1.2.1 0)), (2, .ref (G2.2.1 0)), (3, .int (i + 6))]) rfl ?_
        refine VL_goto (tgt := 18) (pc := 1126) dL_1126 rfl ?_
        exact h
      · exact absurd h.1 c
    · have h := h.2.2.2.2.2.2.2.2.2.2.2.2.2.2.2.2.2.2.2.2.2.2.2.2.2.2.2.2.2 c
      refine VL_iinc (pc := 1123) dL_1123 rfl (by decide) ?_
      refine VL_lv (lv2 := [(0, .ref b), (1, .ref (G1.2.1 0)), (2, .ref (G2.2.1 0)), (3, .int (i + 6))]) rfl ?_
      refine VL_goto (tgt := 18) (pc := 1126) dL_1126 rfl ?_
      exact h
