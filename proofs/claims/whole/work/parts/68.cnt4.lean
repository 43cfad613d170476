/-! ===== how many there are of order 4, worked out ===== -/
section
/-- the places of order 4, of one out of eight that turns make alike -/
def plc4 : List (Nat × List Nat × List Nat) := [(0, [], []), (1, [], []), (2, [], []), (3, [0, 1, 2], [0]), (12, [], [3]), (15, [0, 3, 12], [0]), (6, [], []), (9, [3, 6, 12], []), (5, [], []), (10, [0, 5, 15], []), (13, [1, 5, 9], []), (14, [2, 6, 10], []), (4, [], []), (8, [0, 4, 12], []), (7, [4, 5, 6], []), (11, [8, 9, 10], [])]
set_option maxRecDepth 100000 in
theorem cnt4 : Nat.ble (cnt 16 31 plc4 0 4294901760) 880 = true := by decide +kernel
end
