def fi0 : Nat → Nat := updN (updN (updN (updN zF 0 (0 * 512)) 1 (1 * 512)) 2 (2 * 512)) 3 (3 * 512)
def la0 : Nat → Nat := updN (updN (updN (updN zF 0 (511)) 1 (1023)) 2 (1535)) 3 (2047)
