section OPSY1
def bcN (x : Nat) : Nat := (fun v1 => (fun v2 => (fun v3 => (fun v4 => (v4 + v4 / 65536) &&& 63) (v3 + v3 / 256)) ((v2 + v2 / 16) &&& 252645135)) ((v1 &&& 858993459) + (v1 / 4 &&& 858993459))) (x - (x / 2 &&& 1431655765))
def bcC (k : Nat) : Bool := (List.range 32).all fun a => (List.range 32).all fun b => bcN (1024 * k + 32 * a + b) == pcn (1024 * k + 32 * a + b)
set_option maxRecDepth 100000 in
theorem bc_0 : bcC 0 = true := by decide +kernel
end OPSY1
