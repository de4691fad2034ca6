/-! ===== the cells of a new object (printed by program) ===== -/
def hC : List pC := [.inr (.inr (7, [.ref 1, .ref 34, .ref 48, .ref 62, .ref 76, .ref 79, .ref 80, .ref 81, .int 0, .int 0])),
  .inr (.inr (1, [.ref 2, .ref 3, .ref 5, .int 0])),
  .inr (.inl (0, 14, va_up (va_up (va_up (va_up (va_up (va_up (va_up (va_up (va_up (va_up (va_up (va_up (va_up (va_up (fun _ => none) 0 (some 6)) 1 (some 8)) 2 (some 10)) 3 (some 12)) 4 (some 14)) 5 (some 16)) 6 (some 18)) 7 (some 20)) 8 (some 22)) 9 (some 24)) 10 (some 26)) 11 (some 28)) 12 (some 30)) 13 (some 32))),
  .inr (.inr (0, [.ref 4, .int 0, .int 0, .int 0])),
  .inl (96, fun _ => 0),
  .inl (96, fun _ => 0),
  .inr (.inr (0, [.ref 7, .int 0, .int 0, .int 0])),
  .inl (96, fun _ => 0),
  .inr (.inr (0, [.ref 9, .int 0, .int 0, .int 0])),
  .inl (96, fun _ => 0),
  .inr (.inr (0, [.ref 11, .int 0, .int 0, .int 0])),
  .inl (96, fun _ => 0),
  .inr (.inr (0, [.ref 13, .int 0, .int 0, .int 0])),
  .inl (96, fun _ => 0),
  .inr (.inr (0, [.ref 15, .int 0, .int 0, .int 0])),
  .inl (96, fun _ => 0),
  .inr (.inr (0, [.ref 17, .int 0, .int 0, .int 0])),
  .inl (96, fun _ => 0),
  .inr (.inr (0, [.ref 19, .int 0, .int 0, .int 0])),
  .inl (96, fun _ => 0),
  .inr (.inr (0, [.ref 21, .int 0, .int 0, .int 0])),
  .inl (96, fun _ => 0),
  .inr (.inr (0, [.ref 23, .int 0, .int 0, .int 0])),
  .inl (96, fun _ => 0),
  .inr (.inr (0, [.ref 25, .int 0, .int 0, .int 0])),
  .inl (96, fun _ => 0),
  .inr (.inr (0, [.ref 27, .int 0, .int 0, .int 0])),
  .inl (96, fun _ => 0),
  .inr (.inr (0, [.ref 29, .int 0, .int 0, .int 0])),
  .inl (96, fun _ => 0),
  .inr (.inr (0, [.ref 31, .int 0, .int 0, .int 0])),
  .inl (96, fun _ => 0),
  .inr (.inr (0, [.ref 33, .int 0, .int 0, .int 0])),
  .inl (96, fun _ => 0),
  .inr (.inr (6, [.ref 1, .ref 35, .ref 36, .ref 37, .ref 38, .int 0, .int 0, .int 0, .int 0, .int 1])),
  .inl (16, fun _ => 0),
  .inr (.inl (4, 9, va_up (va_up (va_up (va_up (va_up (va_up (va_up (va_up (va_up (fun _ => none) 0 (some 39)) 1 (some 40)) 2 (some 41)) 3 (some 42)) 4 (some 43)) 5 (some 44)) 6 (some 45)) 7 (some 46)) 8 (some 47))),
  .inl (9, fun _ => 0),
  .inl (3, va_up (va_up (va_up (fun _ => 0) 0 (-1000000005)) 1 (-1000000005)) 2 (-1000000005)),
  .inr (.inr (4, [.int 0, .int 0, .int 1, .int 0, .int 16, .int 50])),
  .inr (.inr (4, [.int 0, .int 0, .int 1, .int 0, .int 16, .int 50])),
  .inr (.inr (4, [.int 0, .int 0, .int 1, .int 0, .int 16, .int 50])),
  .inr (.inr (4, [.int 0, .int 0, .int 1, .int 0, .int 16, .int 50])),
  .inr (.inr (4, [.int 0, .int 0, .int 1, .int 0, .int 16, .int 50])),
  .inr (.inr (4, [.int 0, .int 0, .int 1, .int 0, .int 16, .int 50])),
  .inr (.inr (4, [.int 0, .int 0, .int 1, .int 0, .int 16, .int 50])),
  .inr (.inr (4, [.int 0, .int 0, .int 1, .int 0, .int 16, .int 50])),
  .inr (.inr (4, [.int 0, .int 0, .int 1, .int 0, .int 16, .int 50])),
  .inr (.inr (6, [.ref 1, .ref 49, .ref 50, .ref 51, .ref 52, .int 0, .int 0, .int 0, .int 0, .int 1])),
  .inl (16, fun _ => 0),
  .inr (.inl (4, 9, va_up (va_up (va_up (va_up (va_up (va_up (va_up (va_up (va_up (fun _ => none) 0 (some 53)) 1 (some 54)) 2 (some 55)) 3 (some 56)) 4 (some 57)) 5 (some 58)) 6 (some 59)) 7 (some 60)) 8 (some 61))),
  .inl (9, fun _ => 0),
  .inl (3, va_up (va_up (va_up (fun _ => 0) 0 (-1000000005)) 1 (-1000000005)) 2 (-1000000005)),
  .inr (.inr (4, [.int 0, .int 0, .int 1, .int 0, .int 16, .int 50])),
  .inr (.inr (4, [.int 0, .int 0, .int 1, .int 0, .int 16, .int 50])),
  .inr (.inr (4, [.int 0, .int 0, .int 1, .int 0, .int 16, .int 50])),
  .inr (.inr (4, [.int 0, .int 0, .int 1, .int 0, .int 16, .int 50])),
  .inr (.inr (4, [.int 0, .int 0, .int 1, .int 0, .int 16, .int 50])),
  .inr (.inr (4, [.int 0, .int 0, .int 1, .int 0, .int 16, .int 50])),
  .inr (.inr (4, [.int 0, .int 0, .int 1, .int 0, .int 16, .int 50])),
  .inr (.inr (4, [.int 0, .int 0, .int 1, .int 0, .int 16, .int 50])),
  .inr (.inr (4, [.int 0, .int 0, .int 1, .int 0, .int 16, .int 50])),
  .inr (.inr (6, [.ref 1, .ref 63, .ref 64, .ref 65, .ref 66, .int 0, .int 0, .int 0, .int 0, .int 1])),
  .inl (16, fun _ => 0),
  .inr (.inl (4, 9, va_up (va_up (va_up (va_up (va_up (va_up (va_up (va_up (va_up (fun _ => none) 0 (some 67)) 1 (some 68)) 2 (some 69)) 3 (some 70)) 4 (some 71)) 5 (some 72)) 6 (some 73)) 7 (some 74)) 8 (some 75))),
  .inl (9, fun _ => 0),
  .inl (3, va_up (va_up (va_up (fun _ => 0) 0 (-1000000005)) 1 (-1000000005)) 2 (-1000000005)),
  .inr (.inr (4, [.int 0, .int 0, .int 1, .int 0, .int 16, .int 50])),
  .inr (.inr (4, [.int 0, .int 0, .int 1, .int 0, .int 16, .int 50])),
  .inr (.inr (4, [.int 0, .int 0, .int 1, .int 0, .int 16, .int 50])),
  .inr (.inr (4, [.int 0, .int 0, .int 1, .int 0, .int 16, .int 50])),
  .inr (.inr (4, [.int 0, .int 0, .int 1, .int 0, .int 16, .int 50])),
  .inr (.inr (4, [.int 0, .int 0, .int 1, .int 0, .int 16, .int 50])),
  .inr (.inr (4, [.int 0, .int 0, .int 1, .int 0, .int 16, .int 50])),
  .inr (.inr (4, [.int 0, .int 0, .int 1, .int 0, .int 16, .int 50])),
  .inr (.inr (4, [.int 0, .int 0, .int 1, .int 0, .int 16, .int 50])),
  .inr (.inr (2, [.ref 77, .int 0, .int 0, .int 0, .int 0, .int 0, .ref 78, .int 0, .int 0, .int 0, .int 0])),
  .inl (96, fun _ => 0),
  .inl (96, fun _ => 0),
  .inr (.inl (3, 4, va_up (va_up (va_up (va_up (fun _ => none) 0 (some 82)) 1 (some 84)) 2 (some 86)) 3 (some 88))),
  .inr (.inl (5, 5, va_up (va_up (va_up (va_up (va_up (fun _ => none) 0 (some 90)) 1 (some 94)) 2 (some 98)) 3 (some 102)) 4 (some 106))),
  .inl (60, fun _ => 0),
  .inr (.inr (3, [.ref 83, .int (-1), .int 0])),
  .inl (24, fun _ => 0),
  .inr (.inr (3, [.ref 85, .int (-1), .int 0])),
  .inl (24, fun _ => 0),
  .inr (.inr (3, [.ref 87, .int (-1), .int 0])),
  .inl (24, fun _ => 0),
  .inr (.inr (3, [.ref 89, .int (-1), .int 0])),
  .inl (24, fun _ => 0),
  .inr (.inr (5, [.ref 91, .ref 92, .int 0, .int 0])),
  .inr (.inr (4, [.int 0, .int 0, .int 1, .int 0, .int 16, .int 50])),
  .inr (.inr (3, [.ref 93, .int (-1), .int 0])),
  .inl (24, fun _ => 0),
  .inr (.inr (5, [.ref 95, .ref 96, .int 0, .int 0])),
  .inr (.inr (4, [.int 0, .int 0, .int 1, .int 0, .int 16, .int 50])),
  .inr (.inr (3, [.ref 97, .int (-1), .int 0])),
  .inl (24, fun _ => 0),
  .inr (.inr (5, [.ref 99, .ref 100, .int 0, .int 0])),
  .inr (.inr (4, [.int 0, .int 0, .int 1, .int 0, .int 16, .int 50])),
  .inr (.inr (3, [.ref 101, .int (-1), .int 0])),
  .inl (24, fun _ => 0),
  .inr (.inr (5, [.ref 103, .ref 104, .int 0, .int 0])),
  .inr (.inr (4, [.int 0, .int 0, .int 1, .int 0, .int 16, .int 50])),
  .inr (.inr (3, [.ref 105, .int (-1), .int 0])),
  .inl (24, fun _ => 0),
  .inr (.inr (5, [.ref 107, .ref 108, .int 0, .int 0])),
  .inr (.inr (4, [.int 0, .int 0, .int 1, .int 0, .int 16, .int 50])),
  .inr (.inr (3, [.ref 109, .int (-1), .int 0])),
  .inl (24, fun _ => 0)]
def h0 : List pC := [.inr (.inr (7, [.ref 1, .ref 34, .ref 48, .ref 62, .ref 76, .ref 79, .ref 80, .ref 81, .int 0, .int 0])),
  .inr (.inr (1, [.ref 2, .ref 3, .ref 5, .int 0])),
  .inr (.inl (0, 14, va_up (va_up (va_up (va_up (va_up (va_up (va_up (va_up (va_up (va_up (va_up (va_up (va_up (va_up (fun _ => none) 0 (some 6)) 1 (some 8)) 2 (some 10)) 3 (some 12)) 4 (some 14)) 5 (some 16)) 6 (some 18)) 7 (some 20)) 8 (some 22)) 9 (some 24)) 10 (some 26)) 11 (some 28)) 12 (some 30)) 13 (some 32))),
  .inr (.inr (0, [.ref 4, .int 0, .int 0, .int 0])),
  .inl (96, fun _ => 0),
  .inl (96, fun _ => 0),
  .inr (.inr (0, [.ref 7, .int 0, .int 0, .int 0])),
  .inl (96, fun _ => 0),
  .inr (.inr (0, [.ref 9, .int 0, .int 0, .int 0])),
  .inl (96, fun _ => 0),
  .inr (.inr (0, [.ref 11, .int 0, .int 0, .int 0])),
  .inl (96, fun _ => 0),
  .inr (.inr (0, [.ref 13, .int 0, .int 0, .int 0])),
  .inl (96, fun _ => 0),
  .inr (.inr (0, [.ref 15, .int 0, .int 0, .int 0])),
  .inl (96, fun _ => 0),
  .inr (.inr (0, [.ref 17, .int 0, .int 0, .int 0])),
  .inl (96, fun _ => 0),
  .inr (.inr (0, [.ref 19, .int 0, .int 0, .int 0])),
  .inl (96, fun _ => 0),
  .inr (.inr (0, [.ref 21, .int 0, .int 0, .int 0])),
  .inl (96, fun _ => 0),
  .inr (.inr (0, [.ref 23, .int 0, .int 0, .int 0])),
  .inl (96, fun _ => 0),
  .inr (.inr (0, [.ref 25, .int 0, .int 0, .int 0])),
  .inl (96, fun _ => 0),
  .inr (.inr (0, [.ref 27, .int 0, .int 0, .int 0])),
  .inl (96, fun _ => 0),
  .inr (.inr (0, [.ref 29, .int 0, .int 0, .int 0])),
  .inl (96, fun _ => 0),
  .inr (.inr (0, [.ref 31, .int 0, .int 0, .int 0])),
  .inl (96, fun _ => 0),
  .inr (.inr (0, [.ref 33, .int 0, .int 0, .int 0])),
  .inl (96, fun _ => 0),
  .inr (.inr (6, [.ref 1, .ref 35, .ref 36, .ref 37, .ref 38, .int 0, .int 0, .int 0, .int 0, .int 1])),
  .inl (16, fun _ => 0),
  .inr (.inl (4, 9, va_up (va_up (va_up (va_up (va_up (va_up (va_up (va_up (va_up (fun _ => none) 0 (some 39)) 1 (some 40)) 2 (some 41)) 3 (some 42)) 4 (some 43)) 5 (some 44)) 6 (some 45)) 7 (some 46)) 8 (some 47))),
  .inl (9, fun _ => 0),
  .inl (3, va_up (va_up (va_up (fun _ => 0) 0 (-1000000005)) 1 (-1000000005)) 2 (-1000000005)),
  .inr (.inr (4, [.int 0, .int 0, .int 1, .int 0, .int 16, .int 50])),
  .inr (.inr (4, [.int 0, .int 0, .int 1, .int 0, .int 16, .int 50])),
  .inr (.inr (4, [.int 0, .int 0, .int 1, .int 0, .int 16, .int 50])),
  .inr (.inr (4, [.int 0, .int 0, .int 1, .int 0, .int 16, .int 50])),
  .inr (.inr (4, [.int 0, .int 0, .int 1, .int 0, .int 16, .int 50])),
  .inr (.inr (4, [.int 0, .int 0, .int 1, .int 0, .int 16, .int 50])),
  .inr (.inr (4, [.int 0, .int 0, .int 1, .int 0, .int 16, .int 50])),
  .inr (.inr (4, [.int 0, .int 0, .int 1, .int 0, .int 16, .int 50])),
  .inr (.inr (4, [.int 0, .int 0, .int 1, .int 0, .int 16, .int 50])),
  .inr (.inr (6, [.ref 1, .ref 49, .ref 50, .ref 51, .ref 52, .int 0, .int 0, .int 0, .int 0, .int 1])),
  .inl (16, fun _ => 0),
  .inr (.inl (4, 9, va_up (va_up (va_up (va_up (va_up (va_up (va_up (va_up (va_up (fun _ => none) 0 (some 53)) 1 (some 54)) 2 (some 55)) 3 (some 56)) 4 (some 57)) 5 (some 58)) 6 (some 59)) 7 (some 60)) 8 (some 61))),
  .inl (9, fun _ => 0),
  .inl (3, va_up (va_up (va_up (fun _ => 0) 0 (-1000000005)) 1 (-1000000005)) 2 (-1000000005)),
  .inr (.inr (4, [.int 0, .int 0, .int 1, .int 0, .int 16, .int 50])),
  .inr (.inr (4, [.int 0, .int 0, .int 1, .int 0, .int 16, .int 50])),
  .inr (.inr (4, [.int 0, .int 0, .int 1, .int 0, .int 16, .int 50])),
  .inr (.inr (4, [.int 0, .int 0, .int 1, .int 0, .int 16, .int 50])),
  .inr (.inr (4, [.int 0, .int 0, .int 1, .int 0, .int 16, .int 50])),
  .inr (.inr (4, [.int 0, .int 0, .int 1, .int 0, .int 16, .int 50])),
  .inr (.inr (4, [.int 0, .int 0, .int 1, .int 0, .int 16, .int 50])),
  .inr (.inr (4, [.int 0, .int 0, .int 1, .int 0, .int 16, .int 50])),
  .inr (.inr (4, [.int 0, .int 0, .int 1, .int 0, .int 16, .int 50])),
  .inr (.inr (6, [.ref 1, .ref 63, .ref 64, .ref 65, .ref 66, .int 0, .int 0, .int 0, .int 0, .int 1])),
  .inl (16, fun _ => 0),
  .inr (.inl (4, 9, va_up (va_up (va_up (va_up (va_up (va_up (va_up (va_up (va_up (fun _ => none) 0 (some 67)) 1 (some 68)) 2 (some 69)) 3 (some 70)) 4 (some 71)) 5 (some 72)) 6 (some 73)) 7 (some 74)) 8 (some 75))),
  .inl (9, fun _ => 0),
  .inl (3, va_up (va_up (va_up (fun _ => 0) 0 (-1000000005)) 1 (-1000000005)) 2 (-1000000005)),
  .inr (.inr (4, [.int 0, .int 0, .int 1, .int 0, .int 16, .int 50])),
  .inr (.inr (4, [.int 0, .int 0, .int 1, .int 0, .int 16, .int 50])),
  .inr (.inr (4, [.int 0, .int 0, .int 1, .int 0, .int 16, .int 50])),
  .inr (.inr (4, [.int 0, .int 0, .int 1, .int 0, .int 16, .int 50])),
  .inr (.inr (4, [.int 0, .int 0, .int 1, .int 0, .int 16, .int 50])),
  .inr (.inr (4, [.int 0, .int 0, .int 1, .int 0, .int 16, .int 50])),
  .inr (.inr (4, [.int 0, .int 0, .int 1, .int 0, .int 16, .int 50])),
  .inr (.inr (4, [.int 0, .int 0, .int 1, .int 0, .int 16, .int 50])),
  .inr (.inr (4, [.int 0, .int 0, .int 1, .int 0, .int 16, .int 50])),
  .inr (.inr (2, [.ref 77, .int 0, .int 0, .int 0, .int 0, .int 0, .ref 78, .int 0, .int 0, .int 0, .int 0])),
  .inl (96, fun _ => 0),
  .inl (96, fun _ => 0),
  .inr (.inl (3, 4, va_up (va_up (va_up (va_up (fun _ => none) 0 (some 82)) 1 (some 84)) 2 (some 86)) 3 (some 88))),
  .inr (.inl (5, 5, va_up (va_up (va_up (va_up (va_up (fun _ => none) 0 (some 90)) 1 (some 94)) 2 (some 98)) 3 (some 102)) 4 (some 106))),
  .inl (60, fun _ => 0),
  .inr (.inr (3, [.ref 83, .int (-1), .int 0])),
  .inl (24, fun _ => 0),
  .inr (.inr (3, [.ref 85, .int (-1), .int 0])),
  .inl (24, fun _ => 0),
  .inr (.inr (3, [.ref 87, .int (-1), .int 0])),
  .inl (24, fun _ => 0),
  .inr (.inr (3, [.ref 89, .int (-1), .int 0])),
  .inl (24, fun _ => 0),
  .inr (.inr (5, [.ref 91, .ref 92, .int 0, .int 0])),
  .inr (.inr (4, [.int 0, .int 0, .int 1, .int 0, .int 16, .int 50])),
  .inr (.inr (3, [.ref 93, .int (-1), .int 0])),
  .inl (24, fun _ => 0),
  .inr (.inr (5, [.ref 95, .ref 96, .int 0, .int 0])),
  .inr (.inr (4, [.int 0, .int 0, .int 1, .int 0, .int 16, .int 50])),
  .inr (.inr (3, [.ref 97, .int (-1), .int 0])),
  .inl (24, fun _ => 0),
  .inr (.inr (5, [.ref 99, .ref 100, .int 0, .int 0])),
  .inr (.inr (4, [.int 0, .int 0, .int 1, .int 0, .int 16, .int 50])),
  .inr (.inr (3, [.ref 101, .int (-1), .int 0])),
  .inl (24, fun _ => 0),
  .inr (.inr (5, [.ref 103, .ref 104, .int 0, .int 0])),
  .inr (.inr (4, [.int 0, .int 0, .int 1, .int 0, .int 16, .int 50])),
  .inr (.inr (3, [.ref 105, .int (-1), .int 0])),
  .inl (24, fun _ => 0),
  .inr (.inr (5, [.ref 107, .ref 108, .int 0, .int 0])),
  .inr (.inr (4, [.int 0, .int 0, .int 1, .int 0, .int 16, .int 50])),
  .inr (.inr (3, [.ref 109, .int (-1), .int 0])),
  .inl (24, fun _ => 0),
  .inr (.inr (8, [.ref 111, .ref 112, .ref 113, .int 0, .ref 114, .ref 115, .ref 116, .ref 117, .ref 118, .ref 119, .ref 120, .ref 121, .ref 122, .ref 123, .ref 124, .int 0, .int 0, .int 0, .int 0, .int 0, .int 0, .int 0, .int 0, .int 0, .int 0, .int 0, .ref 125, .ref 126, .ref 127, .ref 128, .int 0, .ref 129])),
  .inl (3075, va_up (fun _ => 0) 4 1),
  .inl (3075, fun _ => 0),
  .inl (3075, fun _ => 0),
  .inl (4, va_up (va_up (va_up (va_up (fun _ => 0) 0 (-1)) 1 (-1)) 2 (-1)) 3 (-1)),
  .inl (4, fun _ => 0),
  .inl (96, fun _ => 0),
  .inl (5, fun _ => 0),
  .inl (5, fun _ => 0),
  .inl (5, fun _ => 0),
  .inl (5, fun _ => 0),
  .inl (120, fun _ => 0),
  .inl (9, fun _ => 0),
  .inl (75, fun _ => 0),
  .inl (96, fun _ => 0),
  .inl (128, fun _ => 0),
  .inl (100, fun _ => 0),
  .inl (24, fun _ => 0),
  .inl (60, fun _ => 0),
  .inl (60, fun _ => 0)]
set_option maxRecDepth 100000 in
set_option maxHeartbeats 4000000 in
theorem run_C120 (E : pX) (V : pV) : Run prog E V 120 mX7_init [.ref 0] [.inr (.inr (7, pini 7))] (none, hC, 109, 2482) := Run.ex 600 (Nat.le_of_ble_eq_true rfl) ⟨_, _, rfl⟩ rfl
set_option maxRecDepth 100000 in
set_option maxHeartbeats 40000000 in
theorem run_M120 (E : pX) (V : pV) : Run prog E V 120 mX8_init [.ref 110] (hC ++ [.inr (.inr (8, pini 8))]) (none, h0, 19, 10021) := Run.ex 2500 (Nat.le_of_ble_eq_true rfl) ⟨_, _, rfl⟩ rfl
/-! the cells of the new objects are what the types say -/
def fB : List Value → List AV → Bool
  | [], [] => true
  | .int v :: vs, (k, lo, hi, z) :: xs => decide (k = 0) && (decide (z = 0) && (decide (lo ≤ v.toInt) && (decide (v.toInt ≤ hi) && fB vs xs)))
  | .ref a :: vs, (k, _, _, z) :: xs => decide (k = 5) && (decide (a = z) && fB vs xs)
  | _, _ => false
def iB (n : Nat) (f : Nat → Int32) (sg : List (Nat × Nat × Int × Int)) : Bool := sg.all (fun s => (List.range n).all (fun j => !(decide (s.1 ≤ j) && decide (j ≤ s.2.1)) || (decide (s.2.2.1 ≤ (f j).toInt) && decide ((f j).toInt ≤ s.2.2.2))))
def tB (t : aT) (c : pC) : Bool := match t, c with
  | .inl t, .inl x => decide (x.1 = t.1) && iB t.1 x.2 t.2
  | .inr (.inl t), .inr (.inl x) => decide (x.1 = t.1) && (decide (x.2.1 = t.2.1) && (List.range t.2.1).all (fun i => decide (x.2.2 i = t.2.2 i)))
  | .inr (.inr t), .inr (.inr x) => decide (x.1 = t.1) && fB x.2 t.2
  | _, _ => false
def hB : List aT → List pC → Bool
  | [], [] => true
  | t :: ts, c :: cs => tB t c && hB ts cs
  | _, _ => false
theorem fB_s : ∀ {vs : List Value} {xs : List AV}, fB vs xs = true → FG vs xs
  | [], [], _ => trivial
  | .int v :: vs, (k, lo, hi, z) :: xs, hf => by
    unfold fB at hf
    rw [Bool.and_eq_true, Bool.and_eq_true, Bool.and_eq_true, Bool.and_eq_true] at hf
    obtain ⟨e1, -, e3, e4, e5⟩ := hf
    obtain rfl : k = 0 := of_decide_eq_true e1
    exact ⟨⟨Nat.zero_le 1, by show (if (0 : Nat) % 2 = 0 then lo ≤ v.toInt ∧ v.toInt ≤ hi else _); rw [if_pos (by decide)]; exact ⟨of_decide_eq_true e3, of_decide_eq_true e4⟩⟩, fB_s e5⟩
  | .ref a :: vs, (k, lo, hi, z) :: xs, hf => by
    unfold fB at hf
    rw [Bool.and_eq_true, Bool.and_eq_true] at hf
    obtain ⟨e1, e2, e5⟩ := hf
    exact ⟨Or.inl ⟨of_decide_eq_true e1, of_decide_eq_true e2⟩, fB_s e5⟩
theorem tB_s {t : aT} {c : pC} (hf : tB t c = true) : tyG t c := by
  unfold tB at hf
  split at hf
  · rename_i t x
    rw [Bool.and_eq_true] at hf
    refine ⟨of_decide_eq_true hf.1, fun s hs i i1 i2 i3 => ?_⟩
    have := List.all_eq_true.mp (List.all_eq_true.mp hf.2 s hs) i (List.mem_range.mpr i3)
    rw [decide_eq_true i1, decide_eq_true i2] at this
    have this : (decide (s.2.2.1 ≤ (x.2 i).toInt) && decide ((x.2 i).toInt ≤ s.2.2.2)) = true := this
    rw [Bool.and_eq_true] at this
    exact ⟨of_decide_eq_true this.1, of_decide_eq_true this.2⟩
  · rename_i t x
    rw [Bool.and_eq_true, Bool.and_eq_true] at hf
    exact ⟨of_decide_eq_true hf.1, of_decide_eq_true hf.2.1, fun i hi => of_decide_eq_true (List.all_eq_true.mp hf.2.2 i (List.mem_range.mpr hi))⟩
  · rename_i t x
    rw [Bool.and_eq_true] at hf
    exact ⟨of_decide_eq_true hf.1, fB_s hf.2⟩
  · cases hf
theorem hB_s : ∀ {ts : List aT} {cs : List pC}, hB ts cs = true → HI ts cs
  | [], [], _ => ⟨rfl, fun a t ht => by simp at ht⟩
  | t :: ts, c :: cs, hf => by
    unfold hB at hf
    rw [Bool.and_eq_true] at hf
    have ih := hB_s hf.2
    refine ⟨by rw [List.length_cons, List.length_cons, ih.1], fun a t' ht => ?_⟩
    cases a with
    | zero => cases ht; exact ⟨c, rfl, tB_s hf.1⟩
    | succ a => exact ih.2 a t' ht
set_option maxRecDepth 100000 in
theorem hi0 : HI HT h0 := hB_s (by decide +kernel)
theorem jt0 : JT h0 := by
  have e1 : (ri h0 111 1).toInt = 0 := by decide +kernel
  have e2 : (ri h0 112 1).toInt = 0 := by decide +kernel
  exact ⟨fun t _ ht => by rw [e1] at ht; omega, fun t _ ht => by rw [e2] at ht; omega⟩
