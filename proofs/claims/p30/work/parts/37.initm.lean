def st0 : hSt := ((0, 3, fun _ => 0, fun _ => []), (0, fun _ => (0, 0, fun _ => 0, fun _ => [])), fun _ => none, [])
