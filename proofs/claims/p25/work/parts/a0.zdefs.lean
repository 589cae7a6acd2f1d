/-- the first memory -/
def I0 : Nat → Nat → Int32 := fun j k => if j = 0 then (if k = 5 then -9 else if k = 7 then -9 else 0) else if j = 2 then (if k = 0 then 1 else 0) else if j = 8 then (if k = 0 then 1 else 0) else if j = 17 then (if k = 1 then -9 else if k = 2 then -1000000 else 0) else if j = 33 then (if k = 1 then -9 else if k = 2 then -1000000 else 0) else if j = 45 then (if k = 1 then -9 else if k = 2 then -1000000 else 0) else if j = 57 then (if k = 1 then -9 else if k = 2 then -1000000 else 0) else if k = 15 then (if j = 22 then 1 else if j = 34 then 1 else if j = 46 then 1 else if j = 318 then 1 else 0) else if j = 318 then (if k = 23 then -9 else if k = 57 then -9 else if k = 61 then -9 else 0) else 0
def G0 : Nat → Nat → Nat := fun j k => if j = 0 then 34 else if j = 14 then (if k = 0 then 22 else 2) else 58
def A0 (u v : Nat → Int32) : Nat → Nat → Int32 := fun j => if j = 18 then u else if j = 19 then v else fun _ => 0
def L0 : Nat → Nat → Int64 := fun _ _ => 0
def VX (K : Nat → ClassId) (ad : Nat → Nat) (u v : Nat → Int32) : va_W := (List.range 318).map (fun j => (ad j, cell K ad I0 G0 (A0 u v) L0 j))
def VMR (K : Nat → ClassId) (m : Nat → Nat) : va_W := (List.range 60).map (fun i => (m i, cell K (fun j => m (j - 318)) I0 G0 (A0 (fun _ => 0) (fun _ => 0)) L0 (318 + i)))
