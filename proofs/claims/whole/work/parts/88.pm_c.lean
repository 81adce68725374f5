def zZ : Nat → Int := fun _ => 0
def fmZ : Nat → Nat := updN (updN (updN (updN zF 0 (512 * 0)) 1 (512 * 1)) 2 (512 * 2)) 3 (512 * 3)
def tmZ : Nat → Nat := updN (updN (updN (updN zF 0 (512 * 0 + 511)) 1 (512 * 1 + 511)) 2 (512 * 2 + 511)) 3 (512 * 3 + 511)
