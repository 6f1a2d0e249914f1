def hS_gaskets_1 : pSt := pMk 4 4 0 1 0 2 0 mF0 (fun _ => 0) (fun _ => 0) (fun _ => 0) (hL [(-1), 2, 2, 3, 0, 0, 0, 0, 0, 0, 0, 0, 0, 0, 0, 0, 0, 0, 0, 0, 0, 0, 0, 0, 0, 0, 0, 0, 0, 0, 0, 0]) (hL [(-1), 2, 2, 3, 0, 0, 0, 0, 0, 0, 0, 0, 0, 0, 0, 0, 0, 0, 0, 0, 0, 0, 0, 0, 0, 0, 0, 0, 0, 0, 0, 0]) (fun _ => 0) (hL [1, 0, 0, 1]) (hE [0, 0, 0, 0, 0, 0, 0, 0, 0, 0]) (hE [0, 0, 0, 0, 0, 0, 0, 0, 0, 0])
def hS_gaskets_2 : pSt := pMk 4 4 0 1 0 2 0 mF0 (fun _ => 0) (fun _ => 0) (fun _ => 0) (hL [(-1), 2, 2, 3, 0, 0, 0, 0, 0, 0, 0, 0, 0, 0, 0, 0, 0, 0, 0, 0, 0, 0, 0, 0, 0, 0, 0, 0, 0, 0, 0, 0]) (hL [(-1), 2, 2, 3, 0, 0, 0, 0, 0, 0, 0, 0, 0, 0, 0, 0, 0, 0, 0, 0, 0, 0, 0, 0, 0, 0, 0, 0, 0, 0, 0, 0]) (fun _ => 0) (hL [1, 0, 0, 1]) (hE [0, 0, 0, 0, 0, 0, 0, 0, 0, 0]) (hE [0, 0, 0, 0, 0, 0, 0, 0, 0, 0])
def hS_gaskets_3 : pSt := pMk 4 4 0 1 0 2 0 mF0 (fun _ => 0) (fun _ => 0) (fun _ => 0) (hL [15, 2, 2, 3, 0, 0, 0, 0, 0, 0, 0, 0, 0, 0, 0, 0, 0, 0, 0, 0, 0, 0, 0, 0, 0, 0, 0, 0, 0, 0, 0, 0]) (hL [(-1), 2, 2, 3, 0, 0, 0, 0, 0, 0, 0, 0, 0, 0, 0, 0, 0, 0, 0, 0, 0, 0, 0, 0, 0, 0, 0, 0, 0, 0, 0, 0]) (fun _ => 0) (hL [1, 0, 0, 1]) (hE [0, 0, 0, 0, 0, 0, 0, 0, 0, 0]) (hE [0, 0, 0, 0, 0, 0, 0, 0, 0, 0])
def hS_gaskets_4 : pSt := pMk 4 4 0 1 0 2 0 mF0 (fun _ => 0) (fun _ => 0) (fun _ => 0) (hL [15, 2, 38, 3, 0, 0, 0, 0, 0, 0, 0, 0, 0, 0, 0, 0, 0, 0, 0, 0, 0, 0, 0, 0, 0, 0, 0, 0, 0, 0, 0, 0]) (hL [(-1), 2, 2, 3, 0, 0, 0, 0, 0, 0, 0, 0, 0, 0, 0, 0, 0, 0, 0, 0, 0, 0, 0, 0, 0, 0, 0, 0, 0, 0, 0, 0]) (fun _ => 0) (hL [1, 0, 0, 1]) (hE [0, 0, 0, 0, 0, 0, 0, 0, 0, 0]) (hE [0, 0, 0, 0, 0, 0, 0, 0, 0, 0])
def hS_gaskets_5 : pSt := pMk 4 4 0 1 0 2 0 mF0 (fun _ => 0) (fun _ => 0) (fun _ => 0) (hL [71, 2, 38, 3, 0, 0, 0, 0, 0, 0, 0, 0, 0, 0, 0, 0, 0, 0, 0, 0, 0, 0, 0, 0, 0, 0, 0, 0, 0, 0, 0, 0]) (hL [(-1), 2, 2, 3, 0, 0, 0, 0, 0, 0, 0, 0, 0, 0, 0, 0, 0, 0, 0, 0, 0, 0, 0, 0, 0, 0, 0, 0, 0, 0, 0, 0]) (fun _ => 0) (hL [1, 0, 0, 1]) (hE [0, 0, 0, 0, 0, 0, 0, 0, 0, 0]) (hE [0, 0, 0, 0, 0, 0, 0, 0, 0, 0])
def hS_gaskets_6 : pSt := pMk 4 4 0 1 0 2 0 mF0 (fun _ => 0) (fun _ => 0) (fun _ => 0) (hL [15, 2, 38, 3, 0, 0, 0, 0, 0, 0, 0, 0, 0, 0, 0, 0, 0, 0, 0, 0, 0, 0, 0, 0, 0, 0, 0, 0, 0, 0, 0, 0]) (hL [(-1), 2, 2, 3, 0, 0, 0, 0, 0, 0, 0, 0, 0, 0, 0, 0, 0, 0, 0, 0, 0, 0, 0, 0, 0, 0, 0, 0, 0, 0, 0, 0]) (fun _ => 0) (hL [1, 0, 0, 1]) (hE [0, 0, 0, 0, 0, 0, 0, 0, 0, 0]) (hE [0, 0, 0, 0, 0, 0, 0, 0, 0, 0])
def hS_gaskets_7 : pSt := pMk 4 4 0 1 0 2 0 mF0 (fun _ => 0) (fun _ => 0) (fun _ => 0) (hL [15, 2, 2, 3, 0, 0, 0, 0, 0, 0, 0, 0, 0, 0, 0, 0, 0, 0, 0, 0, 0, 0, 0, 0, 0, 0, 0, 0, 0, 0, 0, 0]) (hL [(-1), 2, 2, 3, 0, 0, 0, 0, 0, 0, 0, 0, 0, 0, 0, 0, 0, 0, 0, 0, 0, 0, 0, 0, 0, 0, 0, 0, 0, 0, 0, 0]) (fun _ => 0) (hL [1, 0, 0, 1]) (hE [0, 0, 0, 0, 0, 0, 0, 0, 0, 0]) (hE [0, 0, 0, 0, 0, 0, 0, 0, 0, 0])
def hS_gaskets_8 : pSt := pMk 4 4 0 1 0 2 0 mF0 (fun _ => 0) (fun _ => 0) (fun _ => 0) (hL [(-1), 2, 2, 3, 0, 0, 0, 0, 0, 0, 0, 0, 0, 0, 0, 0, 0, 0, 0, 0, 0, 0, 0, 0, 0, 0, 0, 0, 0, 0, 0, 0]) (hL [(-1), 2, 2, 3, 0, 0, 0, 0, 0, 0, 0, 0, 0, 0, 0, 0, 0, 0, 0, 0, 0, 0, 0, 0, 0, 0, 0, 0, 0, 0, 0, 0]) (fun _ => 0) (hL [1, 0, 0, 1]) (hE [0, 0, 0, 0, 0, 0, 0, 0, 0, 0]) (hE [0, 0, 0, 0, 0, 0, 0, 0, 0, 0])
def hS_gaskets_9 : pSt := pMk 4 4 0 2 0 2 0 mF0 (fun _ => 0) (fun _ => 0) (fun _ => 0) (hL [(-1), 2, 2, 3, 0, 1, 1, 4, 0, 0, 0, 0, 0, 0, 0, 0, 0, 0, 0, 0, 0, 0, 0, 0, 0, 0, 0, 0, 0, 0, 0, 0]) (hL [(-1), 2, 2, 3, 0, 0, 1, 1, 0, 0, 0, 0, 0, 0, 0, 0, 0, 0, 0, 0, 0, 0, 0, 0, 0, 0, 0, 0, 0, 0, 0, 0]) (fun _ => 0) (hL [1, 0, 0, 1]) (hE [0, 0, 0, 0, 0, 0, 0, 0, 0, 0]) (hE [0, 0, 0, 0, 0, 0, 0, 0, 0, 0])
def hS_gaskets_10 : pSt := pMk 4 4 0 2 0 2 0 mF0 (fun _ => 0) (fun _ => 0) (fun _ => 0) (hL [(-1), 2, 2, 3, 0, 1, 1, 0, 0, 0, 0, 0, 0, 0, 0, 0, 0, 0, 0, 0, 0, 0, 0, 0, 0, 0, 0, 0, 0, 0, 0, 0]) (hL [(-1), 2, 2, 3, 0, 0, 1, 1, 0, 0, 0, 0, 0, 0, 0, 0, 0, 0, 0, 0, 0, 0, 0, 0, 0, 0, 0, 0, 0, 0, 0, 0]) (fun _ => 0) (hL [1, 0, 0, 1]) (hE [0, 0, 0, 0, 0, 0, 0, 0, 0, 0]) (hE [0, 0, 0, 0, 0, 0, 0, 0, 0, 0])
def hS_gaskets_11 : pSt := pMk 4 4 0 2 0 2 0 mF0 (fun _ => 0) (fun _ => 0) (fun _ => 0) (hL [(-1), 2, 2, 3, 0, 1, 1, 0, 0, 0, 0, 0, 0, 0, 0, 0, 0, 0, 0, 0, 0, 0, 0, 0, 0, 0, 0, 0, 0, 0, 0, 0]) (hL [(-1), 2, 2, 3, 0, 0, 1, 1, 0, 0, 0, 0, 0, 0, 0, 0, 0, 0, 0, 0, 0, 0, 0, 0, 0, 0, 0, 0, 0, 0, 0, 0]) (fun _ => 0) (hL [1, 0, 0, 1]) (hE [0, 0, 0, 0, 0, 0, 0, 0, 0, 0]) (hE [0, 0, 0, 0, 0, 0, 0, 0, 0, 0])
def hS_gaskets_12 : pSt := pMk 4 4 0 2 0 2 0 mF0 (fun _ => 0) (fun _ => 0) (fun _ => 0) (hL [(-1), 2, 2, 3, 4, 1, 1, 0, 0, 0, 0, 0, 0, 0, 0, 0, 0, 0, 0, 0, 0, 0, 0, 0, 0, 0, 0, 0, 0, 0, 0, 0]) (hL [(-1), 2, 2, 3, 0, 0, 1, 1, 0, 0, 0, 0, 0, 0, 0, 0, 0, 0, 0, 0, 0, 0, 0, 0, 0, 0, 0, 0, 0, 0, 0, 0]) (fun _ => 0) (hL [1, 0, 0, 1]) (hE [0, 0, 0, 0, 0, 0, 0, 0, 0, 0]) (hE [0, 0, 0, 0, 0, 0, 0, 0, 0, 0])
def hS_gaskets_13 : pSt := pMk 4 4 0 3 0 2 0 mF0 (fun _ => 0) (fun _ => 0) (fun _ => 0) (hL [(-1), 2, 2, 3, 4, 1, 1, 0, 3, 6, 7, (-2), 0, 0, 0, 0, 0, 0, 0, 0, 0, 0, 0, 0, 0, 0, 0, 0, 0, 0, 0, 0]) (hL [(-1), 2, 2, 3, 0, 0, 1, 1, (-2), 3, 6, 7, 0, 0, 0, 0, 0, 0, 0, 0, 0, 0, 0, 0, 0, 0, 0, 0, 0, 0, 0, 0]) (fun _ => 0) (hL [1, 0, 0, 1]) (hE [0, 0, 0, 0, 0, 0, 0, 0, 0, 0]) (hE [0, 0, 0, 0, 0, 0, 0, 0, 0, 0])
def hS_gaskets_14 : pSt := pMk 4 4 0 4 0 2 0 mF0 (fun _ => 0) (fun _ => 0) (fun _ => 0) (hL [(-1), 2, 2, 3, 4, 1, 1, 0, 3, 6, 7, (-2), (-6), 11, 14, 15, 0, 0, 0, 0, 0, 0, 0, 0, 0, 0, 0, 0, 0, 0, 0, 0]) (hL [(-1), 2, 2, 3, 0, 0, 1, 1, (-2), 3, 6, 7, (-6), 11, 14, 15, 0, 0, 0, 0, 0, 0, 0, 0, 0, 0, 0, 0, 0, 0, 0, 0]) (fun _ => 0) (hL [1, 0, 0, 1]) (hE [0, 0, 0, 0, 0, 0, 0, 0, 0, 0]) (hE [0, 0, 0, 0, 0, 0, 0, 0, 0, 0])
def hS_gaskets_15 : pSt := pMk 4 4 0 4 0 2 0 mF0 (fun _ => 0) (fun _ => 0) (fun _ => 0) (hL [15, 2, 2, 3, 4, 1, 1, 0, 3, 6, 7, (-2), (-6), 11, 14, 15, 0, 0, 0, 0, 0, 0, 0, 0, 0, 0, 0, 0, 0, 0, 0, 0]) (hL [(-1), 2, 2, 3, 0, 0, 1, 1, (-2), 3, 6, 7, (-6), 11, 14, 15, 0, 0, 0, 0, 0, 0, 0, 0, 0, 0, 0, 0, 0, 0, 0, 0]) (fun _ => 0) (hL [1, 0, 0, 1]) (hE [0, 0, 0, 0, 0, 0, 0, 0, 0, 0]) (hE [0, 0, 0, 0, 0, 0, 0, 0, 0, 0])
def hS_gaskets_16 : pSt := pMk 4 4 0 4 0 2 0 mF0 (fun _ => 0) (fun _ => 0) (fun _ => 0) (hL [15, 38, 2, 3, 4, 1, 1, 0, 3, 6, 7, (-2), (-6), 11, 14, 15, 0, 0, 0, 0, 0, 0, 0, 0, 0, 0, 0, 0, 0, 0, 0, 0]) (hL [(-1), 2, 2, 3, 0, 0, 1, 1, (-2), 3, 6, 7, (-6), 11, 14, 15, 0, 0, 0, 0, 0, 0, 0, 0, 0, 0, 0, 0, 0, 0, 0, 0]) (fun _ => 0) (hL [1, 0, 0, 1]) (hE [0, 0, 0, 0, 0, 0, 0, 0, 0, 0]) (hE [0, 0, 0, 0, 0, 0, 0, 0, 0, 0])
def hS_gaskets_17 : pSt := pMk 4 4 0 4 0 2 0 mF0 (fun _ => 0) (fun _ => 0) (fun _ => 0) (hL [15, 38, 110, 3, 4, 1, 1, 0, 3, 6, 7, (-2), (-6), 11, 14, 15, 0, 0, 0, 0, 0, 0, 0, 0, 0, 0, 0, 0, 0, 0, 0, 0]) (hL [(-1), 2, 2, 3, 0, 0, 1, 1, (-2), 3, 6, 7, (-6), 11, 14, 15, 0, 0, 0, 0, 0, 0, 0, 0, 0, 0, 0, 0, 0, 0, 0, 0]) (fun _ => 0) (hL [1, 0, 0, 1]) (hE [0, 0, 0, 0, 0, 0, 0, 0, 0, 0]) (hE [0, 0, 0, 0, 0, 0, 0, 0, 0, 0])
def hS_gaskets_18 : pSt := pMk 4 4 0 4 0 2 0 mF0 (fun _ => 0) (fun _ => 0) (fun _ => 0) (hL [15, 38, 110, 323, 4, 1, 1, 0, 3, 6, 7, (-2), (-6), 11, 14, 15, 0, 0, 0, 0, 0, 0, 0, 0, 0, 0, 0, 0, 0, 0, 0, 0]) (hL [(-1), 2, 2, 3, 0, 0, 1, 1, (-2), 3, 6, 7, (-6), 11, 14, 15, 0, 0, 0, 0, 0, 0, 0, 0, 0, 0, 0, 0, 0, 0, 0, 0]) (fun _ => 0) (hL [1, 0, 0, 1]) (hE [0, 0, 0, 0, 0, 0, 0, 0, 0, 0]) (hE [0, 0, 0, 0, 0, 0, 0, 0, 0, 0])
def hS_gaskets_19 : pSt := pMk 4 4 0 4 0 2 0 mF0 (fun _ => 0) (fun _ => 0) (fun _ => 0) (hL [927, 38, 110, 323, 4, 1, 1, 0, 3, 6, 7, (-2), (-6), 11, 14, 15, 0, 0, 0, 0, 0, 0, 0, 0, 0, 0, 0, 0, 0, 0, 0, 0]) (hL [(-1), 2, 2, 3, 0, 0, 1, 1, (-2), 3, 6, 7, (-6), 11, 14, 15, 0, 0, 0, 0, 0, 0, 0, 0, 0, 0, 0, 0, 0, 0, 0, 0]) (fun _ => 0) (hL [1, 0, 0, 1]) (hE [0, 0, 0, 0, 0, 0, 0, 0, 0, 0]) (hE [0, 0, 0, 0, 0, 0, 0, 0, 0, 0])
def hS_gaskets_20 : pSt := pMk 4 4 0 4 0 2 0 mF0 (fun _ => 0) (fun _ => 0) (fun _ => 0) (hL [927, 2682, 110, 323, 4, 1, 1, 0, 3, 6, 7, (-2), (-6), 11, 14, 15, 0, 0, 0, 0, 0, 0, 0, 0, 0, 0, 0, 0, 0, 0, 0, 0]) (hL [(-1), 2, 2, 3, 0, 0, 1, 1, (-2), 3, 6, 7, (-6), 11, 14, 15, 0, 0, 0, 0, 0, 0, 0, 0, 0, 0, 0, 0, 0, 0, 0, 0]) (fun _ => 0) (hL [1, 0, 0, 1]) (hE [0, 0, 0, 0, 0, 0, 0, 0, 0, 0]) (hE [0, 0, 0, 0, 0, 0, 0, 0, 0, 0])
def hS_gaskets_21 : pSt := pMk 4 4 0 4 0 2 0 mF0 (fun _ => 0) (fun _ => 0) (fun _ => 0) (hL [927, 2682, 7754, 323, 4, 1, 1, 0, 3, 6, 7, (-2), (-6), 11, 14, 15, 0, 0, 0, 0, 0, 0, 0, 0, 0, 0, 0, 0, 0, 0, 0, 0]) (hL [(-1), 2, 2, 3, 0, 0, 1, 1, (-2), 3, 6, 7, (-6), 11, 14, 15, 0, 0, 0, 0, 0, 0, 0, 0, 0, 0, 0, 0, 0, 0, 0, 0]) (fun _ => 0) (hL [1, 0, 0, 1]) (hE [0, 0, 0, 0, 0, 0, 0, 0, 0, 0]) (hE [0, 0, 0, 0, 0, 0, 0, 0, 0, 0])
def hS_gaskets_22 : pSt := pMk 4 4 0 4 0 2 0 mF0 (fun _ => 0) (fun _ => 0) (fun _ => 0) (hL [927, 2682, 7754, 22403, 4, 1, 1, 0, 3, 6, 7, (-2), (-6), 11, 14, 15, 0, 0, 0, 0, 0, 0, 0, 0, 0, 0, 0, 0, 0, 0, 0, 0]) (hL [(-1), 2, 2, 3, 0, 0, 1, 1, (-2), 3, 6, 7, (-6), 11, 14, 15, 0, 0, 0, 0, 0, 0, 0, 0, 0, 0, 0, 0, 0, 0, 0, 0]) (fun _ => 0) (hL [1, 0, 0, 1]) (hE [0, 0, 0, 0, 0, 0, 0, 0, 0, 0]) (hE [0, 0, 0, 0, 0, 0, 0, 0, 0, 0])
def hS_gaskets_23 : pSt := pMk 4 4 0 4 0 2 0 mF0 (fun _ => 0) (fun _ => 0) (fun _ => 0) (hL [64751, 2682, 7754, 22403, 4, 1, 1, 0, 3, 6, 7, (-2), (-6), 11, 14, 15, 0, 0, 0, 0, 0, 0, 0, 0, 0, 0, 0, 0, 0, 0, 0, 0]) (hL [(-1), 2, 2, 3, 0, 0, 1, 1, (-2), 3, 6, 7, (-6), 11, 14, 15, 0, 0, 0, 0, 0, 0, 0, 0, 0, 0, 0, 0, 0, 0, 0, 0]) (fun _ => 0) (hL [1, 0, 0, 1]) (hE [0, 0, 0, 0, 0, 0, 0, 0, 0, 0]) (hE [0, 0, 0, 0, 0, 0, 0, 0, 0, 0])
def hS_gaskets_24 : pSt := pMk 4 4 0 4 0 2 0 mF0 (fun _ => 0) (fun _ => 0) (fun _ => 0) (hL [64751, 187134, 7754, 22403, 4, 1, 1, 0, 3, 6, 7, (-2), (-6), 11, 14, 15, 0, 0, 0, 0, 0, 0, 0, 0, 0, 0, 0, 0, 0, 0, 0, 0]) (hL [(-1), 2, 2, 3, 0, 0, 1, 1, (-2), 3, 6, 7, (-6), 11, 14, 15, 0, 0, 0, 0, 0, 0, 0, 0, 0, 0, 0, 0, 0, 0, 0, 0]) (fun _ => 0) (hL [1, 0, 0, 1]) (hE [0, 0, 0, 0, 0, 0, 0, 0, 0, 0]) (hE [0, 0, 0, 0, 0, 0, 0, 0, 0, 0])
def hS_gaskets_25 : pSt := pMk 4 4 0 4 0 2 0 mF0 (fun _ => 0) (fun _ => 0) (fun _ => 0) (hL [64751, 187134, 540822, 22403, 4, 1, 1, 0, 3, 6, 7, (-2), (-6), 11, 14, 15, 0, 0, 0, 0, 0, 0, 0, 0, 0, 0, 0, 0, 0, 0, 0, 0]) (hL [(-1), 2, 2, 3, 0, 0, 1, 1, (-2), 3, 6, 7, (-6), 11, 14, 15, 0, 0, 0, 0, 0, 0, 0, 0, 0, 0, 0, 0, 0, 0, 0, 0]) (fun _ => 0) (hL [1, 0, 0, 1]) (hE [0, 0, 0, 0, 0, 0, 0, 0, 0, 0]) (hE [0, 0, 0, 0, 0, 0, 0, 0, 0, 0])
def hS_gaskets_26 : pSt := pMk 4 4 0 4 0 2 0 mF0 (fun _ => 0) (fun _ => 0) (fun _ => 0) (hL [64751, 187134, 540822, 1563011, 4, 1, 1, 0, 3, 6, 7, (-2), (-6), 11, 14, 15, 0, 0, 0, 0, 0, 0, 0, 0, 0, 0, 0, 0, 0, 0, 0, 0]) (hL [(-1), 2, 2, 3, 0, 0, 1, 1, (-2), 3, 6, 7, (-6), 11, 14, 15, 0, 0, 0, 0, 0, 0, 0, 0, 0, 0, 0, 0, 0, 0, 0, 0]) (fun _ => 0) (hL [1, 0, 0, 1]) (hE [0, 0, 0, 0, 0, 0, 0, 0, 0, 0]) (hE [0, 0, 0, 0, 0, 0, 0, 0, 0, 0])
def hS_gaskets_27 : pSt := pMk 4 4 0 4 0 2 0 mF0 (fun _ => 0) (fun _ => 0) (fun _ => 0) (hL [4517183, 187134, 540822, 1563011, 4, 1, 1, 0, 3, 6, 7, (-2), (-6), 11, 14, 15, 0, 0, 0, 0, 0, 0, 0, 0, 0, 0, 0, 0, 0, 0, 0, 0]) (hL [(-1), 2, 2, 3, 0, 0, 1, 1, (-2), 3, 6, 7, (-6), 11, 14, 15, 0, 0, 0, 0, 0, 0, 0, 0, 0, 0, 0, 0, 0, 0, 0, 0]) (fun _ => 0) (hL [1, 0, 0, 1]) (hE [0, 0, 0, 0, 0, 0, 0, 0, 0, 0]) (hE [0, 0, 0, 0, 0, 0, 0, 0, 0, 0])
def hS_gaskets_28 : pSt := pMk 4 4 0 4 0 2 0 mF0 (fun _ => 0) (fun _ => 0) (fun _ => 0) (hL [4517183, 13054898, 540822, 1563011, 4, 1, 1, 0, 3, 6, 7, (-2), (-6), 11, 14, 15, 0, 0, 0, 0, 0, 0, 0, 0, 0, 0, 0, 0, 0, 0, 0, 0]) (hL [(-1), 2, 2, 3, 0, 0, 1, 1, (-2), 3, 6, 7, (-6), 11, 14, 15, 0, 0, 0, 0, 0, 0, 0, 0, 0, 0, 0, 0, 0, 0, 0, 0]) (fun _ => 0) (hL [1, 0, 0, 1]) (hE [0, 0, 0, 0, 0, 0, 0, 0, 0, 0]) (hE [0, 0, 0, 0, 0, 0, 0, 0, 0, 0])
def hS_gaskets_29 : pSt := pMk 4 4 0 4 0 2 0 mF0 (fun _ => 0) (fun _ => 0) (fun _ => 0) (hL [4517183, 13054898, 37729362, 1563011, 4, 1, 1, 0, 3, 6, 7, (-2), (-6), 11, 14, 15, 0, 0, 0, 0, 0, 0, 0, 0, 0, 0, 0, 0, 0, 0, 0, 0]) (hL [(-1), 2, 2, 3, 0, 0, 1, 1, (-2), 3, 6, 7, (-6), 11, 14, 15, 0, 0, 0, 0, 0, 0, 0, 0, 0, 0, 0, 0, 0, 0, 0, 0]) (fun _ => 0) (hL [1, 0, 0, 1]) (hE [0, 0, 0, 0, 0, 0, 0, 0, 0, 0]) (hE [0, 0, 0, 0, 0, 0, 0, 0, 0, 0])
def hS_gaskets_30 : pSt := pMk 4 4 0 4 0 2 0 mF0 (fun _ => 0) (fun _ => 0) (fun _ => 0) (hL [4517183, 13054898, 37729362, 109039875, 4, 1, 1, 0, 3, 6, 7, (-2), (-6), 11, 14, 15, 0, 0, 0, 0, 0, 0, 0, 0, 0, 0, 0, 0, 0, 0, 0, 0]) (hL [(-1), 2, 2, 3, 0, 0, 1, 1, (-2), 3, 6, 7, (-6), 11, 14, 15, 0, 0, 0, 0, 0, 0, 0, 0, 0, 0, 0, 0, 0, 0, 0, 0]) (fun _ => 0) (hL [1, 0, 0, 1]) (hE [0, 0, 0, 0, 0, 0, 0, 0, 0, 0]) (hE [0, 0, 0, 0, 0, 0, 0, 0, 0, 0])
def hS_gaskets_31 : pSt := pMk 4 4 0 4 0 2 0 mF0 (fun _ => 0) (fun _ => 0) (fun _ => 0) (hL [315131087, 13054898, 37729362, 109039875, 4, 1, 1, 0, 3, 6, 7, (-2), (-6), 11, 14, 15, 0, 0, 0, 0, 0, 0, 0, 0, 0, 0, 0, 0, 0, 0, 0, 0]) (hL [(-1), 2, 2, 3, 0, 0, 1, 1, (-2), 3, 6, 7, (-6), 11, 14, 15, 0, 0, 0, 0, 0, 0, 0, 0, 0, 0, 0, 0, 0, 0, 0, 0]) (fun _ => 0) (hL [1, 0, 0, 1]) (hE [0, 0, 0, 0, 0, 0, 0, 0, 0, 0]) (hE [0, 0, 0, 0, 0, 0, 0, 0, 0, 0])
def hS_gaskets_32 : pSt := pMk 4 4 0 4 0 2 0 mF0 (fun _ => 0) (fun _ => 0) (fun _ => 0) (hL [315131087, 910745750, 37729362, 109039875, 4, 1, 1, 0, 3, 6, 7, (-2), (-6), 11, 14, 15, 0, 0, 0, 0, 0, 0, 0, 0, 0, 0, 0, 0, 0, 0, 0, 0]) (hL [(-1), 2, 2, 3, 0, 0, 1, 1, (-2), 3, 6, 7, (-6), 11, 14, 15, 0, 0, 0, 0, 0, 0, 0, 0, 0, 0, 0, 0, 0, 0, 0, 0]) (fun _ => 0) (hL [1, 0, 0, 1]) (hE [0, 0, 0, 0, 0, 0, 0, 0, 0, 0]) (hE [0, 0, 0, 0, 0, 0, 0, 0, 0, 0])
def hS_gaskets_33 : pSt := pMk 4 4 0 4 0 2 0 mF0 (fun _ => 0) (fun _ => 0) (fun _ => 0) (hL [315131087, 910745750, 2632104062, 109039875, 4, 1, 1, 0, 3, 6, 7, (-2), (-6), 11, 14, 15, 0, 0, 0, 0, 0, 0, 0, 0, 0, 0, 0, 0, 0, 0, 0, 0]) (hL [(-1), 2, 2, 3, 0, 0, 1, 1, (-2), 3, 6, 7, (-6), 11, 14, 15, 0, 0, 0, 0, 0, 0, 0, 0, 0, 0, 0, 0, 0, 0, 0, 0]) (fun _ => 0) (hL [1, 0, 0, 1]) (hE [0, 0, 0, 0, 0, 0, 0, 0, 0, 0]) (hE [0, 0, 0, 0, 0, 0, 0, 0, 0, 0])
def hS_gaskets_34 : pSt := pMk 4 4 0 4 0 2 0 mF0 (fun _ => 0) (fun _ => 0) (fun _ => 0) (hL [315131087, 910745750, 2632104062, 7606921923, 4, 1, 1, 0, 3, 6, 7, (-2), (-6), 11, 14, 15, 0, 0, 0, 0, 0, 0, 0, 0, 0, 0, 0, 0, 0, 0, 0, 0]) (hL [(-1), 2, 2, 3, 0, 0, 1, 1, (-2), 3, 6, 7, (-6), 11, 14, 15, 0, 0, 0, 0, 0, 0, 0, 0, 0, 0, 0, 0, 0, 0, 0, 0]) (fun _ => 0) (hL [1, 0, 0, 1]) (hE [0, 0, 0, 0, 0, 0, 0, 0, 0, 0]) (hE [0, 0, 0, 0, 0, 0, 0, 0, 0, 0])
def hS_gaskets_35 : pSt := pMk 4 4 0 4 0 2 0 mF0 (fun _ => 0) (fun _ => 0) (fun _ => 0) (hL [21984412383, 910745750, 2632104062, 7606921923, 4, 1, 1, 0, 3, 6, 7, (-2), (-6), 11, 14, 15, 0, 0, 0, 0, 0, 0, 0, 0, 0, 0, 0, 0, 0, 0, 0, 0]) (hL [(-1), 2, 2, 3, 0, 0, 1, 1, (-2), 3, 6, 7, (-6), 11, 14, 15, 0, 0, 0, 0, 0, 0, 0, 0, 0, 0, 0, 0, 0, 0, 0, 0]) (fun _ => 0) (hL [1, 0, 0, 1]) (hE [0, 0, 0, 0, 0, 0, 0, 0, 0, 0]) (hE [0, 0, 0, 0, 0, 0, 0, 0, 0, 0])
def hS_gaskets_36 : pSt := pMk 4 4 0 4 0 2 0 mF0 (fun _ => 0) (fun _ => 0) (fun _ => 0) (hL [21984412383, 63536130986, 2632104062, 7606921923, 4, 1, 1, 0, 3, 6, 7, (-2), (-6), 11, 14, 15, 0, 0, 0, 0, 0, 0, 0, 0, 0, 0, 0, 0, 0, 0, 0, 0]) (hL [(-1), 2, 2, 3, 0, 0, 1, 1, (-2), 3, 6, 7, (-6), 11, 14, 15, 0, 0, 0, 0, 0, 0, 0, 0, 0, 0, 0, 0, 0, 0, 0, 0]) (fun _ => 0) (hL [1, 0, 0, 1]) (hE [0, 0, 0, 0, 0, 0, 0, 0, 0, 0]) (hE [0, 0, 0, 0, 0, 0, 0, 0, 0, 0])
def hS_gaskets_37 : pSt := pMk 4 4 0 4 0 2 0 mF0 (fun _ => 0) (fun _ => 0) (fun _ => 0) (hL [21984412383, 63536130986, 183622826522, 7606921923, 4, 1, 1, 0, 3, 6, 7, (-2), (-6), 11, 14, 15, 0, 0, 0, 0, 0, 0, 0, 0, 0, 0, 0, 0, 0, 0, 0, 0]) (hL [(-1), 2, 2, 3, 0, 0, 1, 1, (-2), 3, 6, 7, (-6), 11, 14, 15, 0, 0, 0, 0, 0, 0, 0, 0, 0, 0, 0, 0, 0, 0, 0, 0]) (fun _ => 0) (hL [1, 0, 0, 1]) (hE [0, 0, 0, 0, 0, 0, 0, 0, 0, 0]) (hE [0, 0, 0, 0, 0, 0, 0, 0, 0, 0])
def hS_gaskets_38 : pSt := pMk 4 4 0 4 0 2 0 mF0 (fun _ => 0) (fun _ => 0) (fun _ => 0) (hL [21984412383, 63536130986, 183622826522, 530679817859, 4, 1, 1, 0, 3, 6, 7, (-2), (-6), 11, 14, 15, 0, 0, 0, 0, 0, 0, 0, 0, 0, 0, 0, 0, 0, 0, 0, 0]) (hL [(-1), 2, 2, 3, 0, 0, 1, 1, (-2), 3, 6, 7, (-6), 11, 14, 15, 0, 0, 0, 0, 0, 0, 0, 0, 0, 0, 0, 0, 0, 0, 0, 0]) (fun _ => 0) (hL [1, 0, 0, 1]) (hE [0, 0, 0, 0, 0, 0, 0, 0, 0, 0]) (hE [0, 0, 0, 0, 0, 0, 0, 0, 0, 0])
def hS_gaskets_39 : pSt := pMk 4 4 0 4 0 2 0 mF0 (fun _ => 0) (fun _ => 0) (fun _ => 0) (hL [1533693138351, 63536130986, 183622826522, 530679817859, 4, 1, 1, 0, 3, 6, 7, (-2), (-6), 11, 14, 15, 0, 0, 0, 0, 0, 0, 0, 0, 0, 0, 0, 0, 0, 0, 0, 0]) (hL [(-1), 2, 2, 3, 0, 0, 1, 1, (-2), 3, 6, 7, (-6), 11, 14, 15, 0, 0, 0, 0, 0, 0, 0, 0, 0, 0, 0, 0, 0, 0, 0, 0]) (fun _ => 0) (hL [1, 0, 0, 1]) (hE [0, 0, 0, 0, 0, 0, 0, 0, 0, 0]) (hE [0, 0, 0, 0, 0, 0, 0, 0, 0, 0])
def hS_gaskets_40 : pSt := pMk 4 4 0 4 0 2 0 mF0 (fun _ => 0) (fun _ => 0) (fun _ => 0) (hL [1533693138351, 4432455434478, 183622826522, 530679817859, 4, 1, 1, 0, 3, 6, 7, (-2), (-6), 11, 14, 15, 0, 0, 0, 0, 0, 0, 0, 0, 0, 0, 0, 0, 0, 0, 0, 0]) (hL [(-1), 2, 2, 3, 0, 0, 1, 1, (-2), 3, 6, 7, (-6), 11, 14, 15, 0, 0, 0, 0, 0, 0, 0, 0, 0, 0, 0, 0, 0, 0, 0, 0]) (fun _ => 0) (hL [1, 0, 0, 1]) (hE [0, 0, 0, 0, 0, 0, 0, 0, 0, 0]) (hE [0, 0, 0, 0, 0, 0, 0, 0, 0, 0])
def hS_gaskets_41 : pSt := pMk 4 4 0 4 0 2 0 mF0 (fun _ => 0) (fun _ => 0) (fun _ => 0) (hL [1533693138351, 4432455434478, 12810033954854, 530679817859, 4, 1, 1, 0, 3, 6, 7, (-2), (-6), 11, 14, 15, 0, 0, 0, 0, 0, 0, 0, 0, 0, 0, 0, 0, 0, 0, 0, 0]) (hL [(-1), 2, 2, 3, 0, 0, 1, 1, (-2), 3, 6, 7, (-6), 11, 14, 15, 0, 0, 0, 0, 0, 0, 0, 0, 0, 0, 0, 0, 0, 0, 0, 0]) (fun _ => 0) (hL [1, 0, 0, 1]) (hE [0, 0, 0, 0, 0, 0, 0, 0, 0, 0]) (hE [0, 0, 0, 0, 0, 0, 0, 0, 0, 0])
def hS_gaskets_42 : pSt := pMk 4 4 0 4 0 2 0 mF0 (fun _ => 0) (fun _ => 0) (fun _ => 0) (hL [1533693138351, 4432455434478, 12810033954854, 37021685237507, 4, 1, 1, 0, 3, 6, 7, (-2), (-6), 11, 14, 15, 0, 0, 0, 0, 0, 0, 0, 0, 0, 0, 0, 0, 0, 0, 0, 0]) (hL [(-1), 2, 2, 3, 0, 0, 1, 1, (-2), 3, 6, 7, (-6), 11, 14, 15, 0, 0, 0, 0, 0, 0, 0, 0, 0, 0, 0, 0, 0, 0, 0, 0]) (fun _ => 0) (hL [1, 0, 0, 1]) (hE [0, 0, 0, 0, 0, 0, 0, 0, 0, 0]) (hE [0, 0, 0, 0, 0, 0, 0, 0, 0, 0])
def hS_gaskets_43 : pSt := pMk 4 4 0 4 0 2 0 mF0 (fun _ => 0) (fun _ => 0) (fun _ => 0) (hL [106994656115327, 4432455434478, 12810033954854, 37021685237507, 4, 1, 1, 0, 3, 6, 7, (-2), (-6), 11, 14, 15, 0, 0, 0, 0, 0, 0, 0, 0, 0, 0, 0, 0, 0, 0, 0, 0]) (hL [(-1), 2, 2, 3, 0, 0, 1, 1, (-2), 3, 6, 7, (-6), 11, 14, 15, 0, 0, 0, 0, 0, 0, 0, 0, 0, 0, 0, 0, 0, 0, 0, 0]) (fun _ => 0) (hL [1, 0, 0, 1]) (hE [0, 0, 0, 0, 0, 0, 0, 0, 0, 0]) (hE [0, 0, 0, 0, 0, 0, 0, 0, 0, 0])
def hS_gaskets_44 : pSt := pMk 4 4 0 4 0 2 0 mF0 (fun _ => 0) (fun _ => 0) (fun _ => 0) (hL [106994656115327, 309220295180898, 12810033954854, 37021685237507, 4, 1, 1, 0, 3, 6, 7, (-2), (-6), 11, 14, 15, 0, 0, 0, 0, 0, 0, 0, 0, 0, 0, 0, 0, 0, 0, 0, 0]) (hL [(-1), 2, 2, 3, 0, 0, 1, 1, (-2), 3, 6, 7, (-6), 11, 14, 15, 0, 0, 0, 0, 0, 0, 0, 0, 0, 0, 0, 0, 0, 0, 0, 0]) (fun _ => 0) (hL [1, 0, 0, 1]) (hE [0, 0, 0, 0, 0, 0, 0, 0, 0, 0]) (hE [0, 0, 0, 0, 0, 0, 0, 0, 0, 0])
def hS_gaskets_45 : pSt := pMk 4 4 0 4 0 2 0 mF0 (fun _ => 0) (fun _ => 0) (fun _ => 0) (hL [106994656115327, 309220295180898, 893663239112610, 37021685237507, 4, 1, 1, 0, 3, 6, 7, (-2), (-6), 11, 14, 15, 0, 0, 0, 0, 0, 0, 0, 0, 0, 0, 0, 0, 0, 0, 0, 0]) (hL [(-1), 2, 2, 3, 0, 0, 1, 1, (-2), 3, 6, 7, (-6), 11, 14, 15, 0, 0, 0, 0, 0, 0, 0, 0, 0, 0, 0, 0, 0, 0, 0, 0]) (fun _ => 0) (hL [1, 0, 0, 1]) (hE [0, 0, 0, 0, 0, 0, 0, 0, 0, 0]) (hE [0, 0, 0, 0, 0, 0, 0, 0, 0, 0])
def hS_gaskets_46 : pSt := pMk 4 4 0 5 0 2 0 mF0 (fun _ => 0) (fun _ => 0) (fun _ => 0) (hL [106994656115327, 309220295180898, 893663239112610, 37021685237507, 4, 1, 1, 0, 3, 6, 7, (-2), (-6), 11, 14, 15, 2, (-1), 3, 2, 0, 0, 0, 0, 0, 0, 0, 0, 0, 0, 0, 0]) (hL [(-1), 2, 2, 3, 0, 0, 1, 1, (-2), 3, 6, 7, (-6), 11, 14, 15, (-1), 2, 2, 3, 0, 0, 0, 0, 0, 0, 0, 0, 0, 0, 0, 0]) (fun _ => 0) (hL [1, 0, 0, 1]) (hE [0, 0, 0, 0, 0, 0, 0, 0, 0, 0]) (hE [0, 0, 0, 0, 0, 0, 0, 0, 0, 0])
def hS_gaskets_47 : pSt := pMk 4 4 0 6 0 2 0 mF0 (fun _ => 0) (fun _ => 0) (fun _ => 0) (hL [106994656115327, 309220295180898, 893663239112610, 37021685237507, 4, 1, 1, 0, 3, 6, 7, (-2), (-6), 11, 14, 15, 2, (-1), 3, 2, 2, (-1), 3, 2, 0, 0, 0, 0, 0, 0, 0, 0]) (hL [(-1), 2, 2, 3, 0, 0, 1, 1, (-2), 3, 6, 7, (-6), 11, 14, 15, (-1), 2, 2, 3, (-1), 2, 2, 3, 0, 0, 0, 0, 0, 0, 0, 0]) (fun _ => 0) (hL [1, 0, 0, 1]) (hE [0, 0, 0, 0, 0, 0, 0, 0, 0, 0]) (hE [0, 0, 0, 0, 0, 0, 0, 0, 0, 0])
def hS_gaskets_48 : pSt := pMk 4 4 0 7 0 2 0 mF0 (fun _ => 0) (fun _ => 0) (fun _ => 0) (hL [106994656115327, 309220295180898, 893663239112610, 37021685237507, 4, 1, 1, 0, 3, 6, 7, (-2), (-6), 11, 14, 15, 2, (-1), 3, 2, 2, (-1), 3, 2, 2, (-1), 3, 2, 0, 0, 0, 0]) (hL [(-1), 2, 2, 3, 0, 0, 1, 1, (-2), 3, 6, 7, (-6), 11, 14, 15, (-1), 2, 2, 3, (-1), 2, 2, 3, (-1), 2, 2, 3, 0, 0, 0, 0]) (fun _ => 0) (hL [1, 0, 0, 1]) (hE [0, 0, 0, 0, 0, 0, 0, 0, 0, 0]) (hE [0, 0, 0, 0, 0, 0, 0, 0, 0, 0])
def hS_gaskets_49 : pSt := pMk 4 4 0 8 0 2 0 mF0 (fun _ => 0) (fun _ => 0) (fun _ => 0) (hL [106994656115327, 309220295180898, 893663239112610, 37021685237507, 4, 1, 1, 0, 3, 6, 7, (-2), (-6), 11, 14, 15, 2, (-1), 3, 2, 2, (-1), 3, 2, 2, (-1), 3, 2, 2, (-1), 3, 2]) (hL [(-1), 2, 2, 3, 0, 0, 1, 1, (-2), 3, 6, 7, (-6), 11, 14, 15, (-1), 2, 2, 3, (-1), 2, 2, 3, (-1), 2, 2, 3, (-1), 2, 2, 3]) (fun _ => 0) (hL [1, 0, 0, 1]) (hE [0, 0, 0, 0, 0, 0, 0, 0, 0, 0]) (hE [0, 0, 0, 0, 0, 0, 0, 0, 0, 0])
set_option maxHeartbeats 16000000 in
set_option maxRecDepth 100000 in
theorem pL_gaskets {l : Launch} (hst : l.stackTraces = false) {G : kG} {B0 : Nat} {f : kH} : Met l yL_gaskets wsP_gaskets rmH (kP G B0 f []) (kQi G B0 (fun r f1 => r = nI 1 ∧ True)) 9000 72000 (kAb B0) := by
  refine kMet (cc := cL_gaskets) (maxL := 5) (ret := (some .boolean)) (by decide) rfl (Nat.le_of_ble_eq_true rfl) ?_
  intro p e s mi args below meth c H locs Q ls C hX hl hr hlocks hnm hQ
  refine k_new (X := RX8) (T := TX8) (N := 7) (ci := 8) (fs := [.null, .null, .null, .null, .null, .null, .null]) C hX (fun w9 h9 => List.mem_cons_of_mem _ (inlX8 w9 h9)) tyX8_ok (fun w9 h9 => List.mem_cons_of_mem _ (in_new w9 h9)) rfl (by decide) (Nat.le_of_ble_eq_true rfl) (Nat.le_of_ble_eq_true rfl) dL_gaskets_0 (fun h H hn hX => ?_)
  refine lv_dup C.x C.b dL_gaskets_3 rfl ?_
  have h0 : kCs (kst f h (.inr (8, [.null, .null, .null, .null, .null, .null, .null]))) [(h, .inr (8, [.null, .null, .null, .null, .null, .null, .null]))] := ⟨fun q hq => by rw [List.mem_singleton.mp hq]; exact kst_s _ _ _, by simp⟩
  refine k_callv (va_runI (As := []) (rest := [.ref h]) C.1 (kX8_init l G B0 _ h h0) (cwI 0 C.ts (gl_up inw_X8_init) rfl rfl rfl (C.ts (.initialized RX8) (List.mem_cons_of_mem _ (in_ini _ (by simp)))) (C.ts (.methodLink RL 126 yX8_init) (List.mem_cons_of_mem _ (in_ini _ (by simp)))) (C.ts (.instanceMethod yX8_init) (List.mem_cons_of_mem _ (in_ini _ (by simp)))) rfl hdA_X8_init ⟨Nat.le_of_ble_eq_true rfl, Nat.le_of_ble_eq_true rfl⟩) (k_preS C hX) rfl rfl hl.1 rfl (lv_room (Nat.le_of_ble_eq_true rfl)) dL_gaskets_4 ⟨Nat.le_of_ble_eq_true rfl, Nat.le_of_ble_eq_true rfl⟩) hX (fun f H locs hp hX => ?_)
  obtain ⟨sp, nA, tA, dl, gl, rw9, sA, wA, ml, pp, nn, wL, qm, rm9, h1, -, -⟩ := hp
  have hI : Inv G h f p0 := Inv_start h1
  refine W.widen (k := 24) (n := 600) (by decide) (by decide) ?_
  refine lv_astore_n (lv' := [(0, .ref h)]) C.x C.b dL_gaskets_7 rfl hl (by decide) rfl (fun ls hl => ?_)
  refine lv_aload_n C.x C.b dL_gaskets_8 rfl (lv_at hl 0 rfl) ?_
  refine lv_bipush (v := (nI 9)) C.x C.b dL_gaskets_9 (by decide) ?_
  refine lv_iconst (v := (nI 1)) C.x C.b dL_gaskets_11 (by decide) ?_
  refine lv_iconst (v := (nI 1)) C.x C.b dL_gaskets_12 (by decide) ?_
  refine lv_iconst (v := (nI 1)) C.x C.b dL_gaskets_13 (by decide) ?_
  refine lv_iconst (v := (nI 1)) C.x C.b dL_gaskets_14 (by decide) ?_
  refine k_actI (As := [.ref h, .int (nI 9), .int (nI 1), .int (nI 1), .int (nI 1), .int (nI 1)]) (rest := []) (c2 := 32) (s2 := 664) (v := (-7000002)) (m1 := p0) C hX (act_9 hI.hd (nI 1) (nI 1) (nI 1) (nI 1) (iop_gasket hst hI (nI 1) (nI 1) (nI 1) (nI 1))) (e_gasket_a (by decide +kernel)) (rfl) (gl_up inv_L_act) rfl hl.1 rfl (by decide) dL_gaskets_15 ⟨Nat.le_of_ble_eq_true rfl, Nat.le_of_ble_eq_true rfl⟩ ⟨Nat.le_of_ble_eq_true rfl, Nat.le_of_ble_eq_true rfl⟩ rfl rfl (fun f H locs hX hI => ?_)
  refine lv_ldc2 (v := (-7000002)) C.x C.b C.ow (C.ts _ (List.mem_cons_of_mem _ lkC_6)) dL_gaskets_18 ?_
  refine k_lcmp_ne (tgt := 406) C.x C.b dL_gaskets_21 dL_gaskets_22 (by decide) (fun q9 => absurd (by decide) q9) (fun _ => ?_)
  refine lv_aload_n C.x C.b dL_gaskets_25 rfl (lv_at hl 0 rfl) ?_
  refine lv_bipush (v := (nI 9)) C.x C.b dL_gaskets_26 (by decide) ?_
  refine lv_iconst (v := (nI 0)) C.x C.b dL_gaskets_28 (by decide) ?_
  refine lv_iconst (v := (nI 0)) C.x C.b dL_gaskets_29 (by decide) ?_
  refine lv_iconst (v := (nI 0)) C.x C.b dL_gaskets_30 (by decide) ?_
  refine lv_iconst (v := (nI 0)) C.x C.b dL_gaskets_31 (by decide) ?_
  refine k_actI (As := [.ref h, .int (nI 9), .int (nI 0), .int (nI 0), .int (nI 0), .int (nI 0)]) (rest := []) (c2 := 40) (s2 := 728) (v := (-7000002)) (m1 := p0) C hX (act_9 hI.hd (nI 0) (nI 0) (nI 0) (nI 0) (iop_gasket hst hI (nI 0) (nI 0) (nI 0) (nI 0))) (e_gasket_a (by decide +kernel)) (rfl) (gl_up inv_L_act) rfl hl.1 rfl (by decide) dL_gaskets_32 ⟨Nat.le_of_ble_eq_true rfl, Nat.le_of_ble_eq_true rfl⟩ ⟨Nat.le_of_ble_eq_true rfl, Nat.le_of_ble_eq_true rfl⟩ rfl rfl (fun f H locs hX hI => ?_)
  refine lv_ldc2 (v := (-7000002)) C.x C.b C.ow (C.ts _ (List.mem_cons_of_mem _ lkC_6)) dL_gaskets_35 ?_
  refine k_lcmp_ne (tgt := 406) C.x C.b dL_gaskets_38 dL_gaskets_39 (by decide) (fun q9 => absurd (by decide) q9) (fun _ => ?_)
  refine lv_aload_n C.x C.b dL_gaskets_42 rfl (lv_at hl 0 rfl) ?_
  refine lv_bipush (v := (nI 9)) C.x C.b dL_gaskets_43 (by decide) ?_
  refine lv_iconst (v := (nI 1)) C.x C.b dL_gaskets_45 (by decide) ?_
  refine lv_bipush (v := (-2)) C.x C.b dL_gaskets_46 (by decide) ?_
  refine lv_bipush (v := (-2)) C.x C.b dL_gaskets_48 (by decide) ?_
  refine lv_bipush (v := (-3)) C.x C.b dL_gaskets_50 (by decide) ?_
  refine k_actI (As := [.ref h, .int (nI 9), .int (nI 1), .int (-2), .int (-2), .int (-3)]) (rest := []) (c2 := 48) (s2 := 792) (v := (-7000002)) (m1 := p0) C hX (act_9 hI.hd (nI 1) (-2) (-2) (-3) (iop_gasket hst hI (nI 1) (-2) (-2) (-3))) (e_gasket_a (by decide +kernel)) (rfl) (gl_up inv_L_act) rfl hl.1 rfl (by decide) dL_gaskets_52 ⟨Nat.le_of_ble_eq_true rfl, Nat.le_of_ble_eq_true rfl⟩ ⟨Nat.le_of_ble_eq_true rfl, Nat.le_of_ble_eq_true rfl⟩ rfl rfl (fun f H locs hX hI => ?_)
  refine lv_ldc2 (v := (-7000002)) C.x C.b C.ow (C.ts _ (List.mem_cons_of_mem _ lkC_6)) dL_gaskets_55 ?_
  refine k_lcmp_ne (tgt := 406) C.x C.b dL_gaskets_58 dL_gaskets_59 (by decide) (fun q9 => absurd (by decide) q9) (fun _ => ?_)
  refine lv_aload_n C.x C.b dL_gaskets_62 rfl (lv_at hl 0 rfl) ?_
  refine lv_iconst (v := (-1)) C.x C.b dL_gaskets_63 (by decide) ?_
  refine lv_iconst (v := (nI 2)) C.x C.b dL_gaskets_64 (by decide) ?_
  refine lv_iconst (v := (nI 2)) C.x C.b dL_gaskets_65 (by decide) ?_
  refine lv_iconst (v := (nI 3)) C.x C.b dL_gaskets_66 (by decide) ?_
  refine k_cI (As := [.int (-1), .int (nI 2), .int (nI 2), .int (nI 3)]) (rest := []) (c2 := 56) (s2 := 856) (v := (nI 0)) (m1 := _) C hX (iop_gasket hst hI (-1) (nI 2) (nI 2) (nI 3)) (ev_gasket 0 (by decide +kernel) (by decide) rfl rfl) hI.hd (gl_up inv_X8_gasket) rfl ⟨rfl, hdA_X8_gasket⟩ (by decide) rfl hl.1 rfl (by decide) dL_gaskets_67 ⟨Nat.le_of_ble_eq_true rfl, Nat.le_of_ble_eq_true rfl⟩ ⟨Nat.le_of_ble_eq_true rfl, Nat.le_of_ble_eq_true rfl⟩ rfl rfl (fun f H locs hX hI => ?_)
  have hI : Inv G h f hS_gaskets_1 := hI.cg (hL [(-1), 2, 2, 3, 0, 0, 0, 0, 0, 0, 0, 0, 0, 0, 0, 0, 0, 0, 0, 0, 0, 0, 0, 0, 0, 0, 0, 0, 0, 0, 0, 0]) (hL [(-1), 2, 2, 3, 0, 0, 0, 0, 0, 0, 0, 0, 0, 0, 0, 0, 0, 0, 0, 0, 0, 0, 0, 0, 0, 0, 0, 0, 0, 0, 0, 0]) (hL [1, 0, 0, 1]) (hE [0, 0, 0, 0, 0, 0, 0, 0, 0, 0]) (hE [0, 0, 0, 0, 0, 0, 0, 0, 0, 0]) ⟨by decide +kernel, by decide +kernel, by decide +kernel⟩
  refine lv_if_ne (tgt := 406) C.x C.b dL_gaskets_70 (by decide) (fun q9 => absurd (by decide) q9) (fun _ => ?_)
  refine lv_aload_n C.x C.b dL_gaskets_73 rfl (lv_at hl 0 rfl) ?_
  refine lv_iconst (v := (nI 0)) C.x C.b dL_gaskets_74 (by decide) ?_
  refine lv_ldc2 (v := (-1)) C.x C.b C.ow (C.ts _ (List.mem_cons_of_mem _ lkC_653)) dL_gaskets_75 ?_
  refine lv_ldc2 (v := 2) C.x C.b C.ow (C.ts _ (List.mem_cons_of_mem _ lkC_654)) dL_gaskets_78 ?_
  refine lv_ldc2 (v := 2) C.x C.b C.ow (C.ts _ (List.mem_cons_of_mem _ lkC_654)) dL_gaskets_81 ?_
  refine lv_ldc2 (v := 3) C.x C.b C.ow (C.ts _ (List.mem_cons_of_mem _ lkC_655)) dL_gaskets_84 ?_
  refine k_law (As := [.ref h, .int (nI 0), .long (-1), .long 2, .long 2, .long 3]) (rest := []) (c2 := 136) (s2 := 1496) (m1 := hS_gaskets_1) C hX (pL_roots hst hI (nI 0) (-1) 2 2 3 (ev_root (by decide +kernel) (by decide +kernel)) (ev_root (by decide +kernel) (by decide +kernel)) (ev_root (by decide +kernel) (by decide +kernel)) (ev_root (by decide +kernel) (by decide +kernel))) (gl_up inv_L_roots) rfl rfl rfl hdP_L_roots ⟨Nat.le_of_ble_eq_true rfl, Nat.le_of_ble_eq_true rfl⟩ rfl hl.1 rfl (by decide) dL_gaskets_87 ⟨Nat.le_of_ble_eq_true rfl, Nat.le_of_ble_eq_true rfl⟩ rfl rfl (fun f H locs hX hI => ?_)
  refine lv_if_eq (tgt := 406) C.x C.b dL_gaskets_90 (by decide) (fun q9 => absurd q9 (by decide)) (fun _ => ?_)
  refine lv_aload_n C.x C.b dL_gaskets_93 rfl (lv_at hl 0 rfl) ?_
  refine lv_iconst (v := (nI 0)) C.x C.b dL_gaskets_94 (by decide) ?_
  refine lv_iconst (v := (nI 3)) C.x C.b dL_gaskets_95 (by decide) ?_
  refine k_cJ (As := [.int (nI 0), .int (nI 3)]) (rest := []) (c2 := 144) (s2 := 1560) (v := 3) (m1 := _) C hX (iop_turn hst hI (nI 0) (nI 3)) (ev_turn 0 3 (by decide +kernel) (by decide) (by decide) (by decide +kernel) (by decide) rfl) hI.hd (gl_up inv_X8_turn) rfl ⟨rfl, hdA_X8_turn⟩ (by decide) rfl hl.1 rfl (by decide) dL_gaskets_96 ⟨Nat.le_of_ble_eq_true rfl, Nat.le_of_ble_eq_true rfl⟩ ⟨Nat.le_of_ble_eq_true rfl, Nat.le_of_ble_eq_true rfl⟩ rfl rfl (fun f H locs hX hI => ?_)
  have hI : Inv G h f hS_gaskets_2 := hI.cg (hL [(-1), 2, 2, 3, 0, 0, 0, 0, 0, 0, 0, 0, 0, 0, 0, 0, 0, 0, 0, 0, 0, 0, 0, 0, 0, 0, 0, 0, 0, 0, 0, 0]) (hL [(-1), 2, 2, 3, 0, 0, 0, 0, 0, 0, 0, 0, 0, 0, 0, 0, 0, 0, 0, 0, 0, 0, 0, 0, 0, 0, 0, 0, 0, 0, 0, 0]) (hL [1, 0, 0, 1]) (hE [0, 0, 0, 0, 0, 0, 0, 0, 0, 0]) (hE [0, 0, 0, 0, 0, 0, 0, 0, 0, 0]) ⟨by decide +kernel, by decide +kernel, by decide +kernel⟩
  refine lv_ldc2 (v := 3) C.x C.b C.ow (C.ts _ (List.mem_cons_of_mem _ lkC_655)) dL_gaskets_99 ?_
  refine k_lcmp_ne (tgt := 406) C.x C.b dL_gaskets_102 dL_gaskets_103 (by decide) (fun q9 => absurd (by decide) q9) (fun _ => ?_)
  refine lv_aload_n C.x C.b dL_gaskets_106 rfl (lv_at hl 0 rfl) ?_
  refine lv_iconst (v := (nI 0)) C.x C.b dL_gaskets_107 (by decide) ?_
  refine lv_iconst (v := (nI 0)) C.x C.b dL_gaskets_108 (by decide) ?_
  refine k_cJ (As := [.int (nI 0), .int (nI 0)]) (rest := []) (c2 := 152) (s2 := 1624) (v := 15) (m1 := _) C hX (iop_turn hst hI (nI 0) (nI 0)) (ev_turn 0 0 (by decide +kernel) (by decide) (by decide) (by decide +kernel) (by decide) rfl) hI.hd (gl_up inv_X8_turn) rfl ⟨rfl, hdA_X8_turn⟩ (by decide) rfl hl.1 rfl (by decide) dL_gaskets_109 ⟨Nat.le_of_ble_eq_true rfl, Nat.le_of_ble_eq_true rfl⟩ ⟨Nat.le_of_ble_eq_true rfl, Nat.le_of_ble_eq_true rfl⟩ rfl rfl (fun f H locs hX hI => ?_)
  have hI : Inv G h f hS_gaskets_3 := hI.cg (hL [15, 2, 2, 3, 0, 0, 0, 0, 0, 0, 0, 0, 0, 0, 0, 0, 0, 0, 0, 0, 0, 0, 0, 0, 0, 0, 0, 0, 0, 0, 0, 0]) (hL [(-1), 2, 2, 3, 0, 0, 0, 0, 0, 0, 0, 0, 0, 0, 0, 0, 0, 0, 0, 0, 0, 0, 0, 0, 0, 0, 0, 0, 0, 0, 0, 0]) (hL [1, 0, 0, 1]) (hE [0, 0, 0, 0, 0, 0, 0, 0, 0, 0]) (hE [0, 0, 0, 0, 0, 0, 0, 0, 0, 0]) ⟨by decide +kernel, by decide +kernel, by decide +kernel⟩
  refine lv_ldc2 (v := 15) C.x C.b C.ow (C.ts _ (List.mem_cons_of_mem _ lkC_656)) dL_gaskets_112 ?_
  refine k_lcmp_ne (tgt := 406) C.x C.b dL_gaskets_115 dL_gaskets_116 (by decide) (fun q9 => absurd (by decide) q9) (fun _ => ?_)
  refine lv_aload_n C.x C.b dL_gaskets_119 rfl (lv_at hl 0 rfl) ?_
  refine lv_iconst (v := (nI 0)) C.x C.b dL_gaskets_120 (by decide) ?_
  refine lv_ldc2 (v := (-1)) C.x C.b C.ow (C.ts _ (List.mem_cons_of_mem _ lkC_653)) dL_gaskets_121 ?_
  refine lv_ldc2 (v := 2) C.x C.b C.ow (C.ts _ (List.mem_cons_of_mem _ lkC_654)) dL_gaskets_124 ?_
  refine lv_ldc2 (v := 2) C.x C.b C.ow (C.ts _ (List.mem_cons_of_mem _ lkC_654)) dL_gaskets_127 ?_
  refine lv_ldc2 (v := 3) C.x C.b C.ow (C.ts _ (List.mem_cons_of_mem _ lkC_655)) dL_gaskets_130 ?_
  refine k_law (As := [.ref h, .int (nI 0), .long (-1), .long 2, .long 2, .long 3]) (rest := []) (c2 := 232) (s2 := 2264) (m1 := hS_gaskets_3) C hX (pL_roots hst hI (nI 0) (-1) 2 2 3 (ev_root (by decide +kernel) (by decide +kernel)) (ev_root (by decide +kernel) (by decide +kernel)) (ev_root (by decide +kernel) (by decide +kernel)) (ev_root (by decide +kernel) (by decide +kernel))) (gl_up inv_L_roots) rfl rfl rfl hdP_L_roots ⟨Nat.le_of_ble_eq_true rfl, Nat.le_of_ble_eq_true rfl⟩ rfl hl.1 rfl (by decide) dL_gaskets_133 ⟨Nat.le_of_ble_eq_true rfl, Nat.le_of_ble_eq_true rfl⟩ rfl rfl (fun f H locs hX hI => ?_)
  refine lv_if_eq (tgt := 406) C.x C.b dL_gaskets_136 (by decide) (fun q9 => absurd q9 (by decide)) (fun _ => ?_)
  refine lv_aload_n C.x C.b dL_gaskets_139 rfl (lv_at hl 0 rfl) ?_
  refine lv_iconst (v := (nI 0)) C.x C.b dL_gaskets_140 (by decide) ?_
  refine lv_iconst (v := (nI 0)) C.x C.b dL_gaskets_141 (by decide) ?_
  refine k_cJ (As := [.int (nI 0), .int (nI 0)]) (rest := []) (c2 := 240) (s2 := 2328) (v := 15) (m1 := hS_gaskets_3) C hX (iop_curvature hst hI (nI 0) (nI 0)) (ev_curvature (by decide +kernel) (by decide +kernel)) hI.hd (gl_up inv_X8_curvature) rfl ⟨rfl, hdA_X8_curvature⟩ (by decide) rfl hl.1 rfl (by decide) dL_gaskets_142 ⟨Nat.le_of_ble_eq_true rfl, Nat.le_of_ble_eq_true rfl⟩ ⟨Nat.le_of_ble_eq_true rfl, Nat.le_of_ble_eq_true rfl⟩ rfl rfl (fun f H locs hX hI => ?_)
  refine lv_ldc2 (v := 15) C.x C.b C.ow (C.ts _ (List.mem_cons_of_mem _ lkC_656)) dL_gaskets_145 ?_
  refine k_lcmp_ne (tgt := 406) C.x C.b dL_gaskets_148 dL_gaskets_149 (by decide) (fun q9 => absurd (by decide) q9) (fun _ => ?_)
  refine lv_aload_n C.x C.b dL_gaskets_152 rfl (lv_at hl 0 rfl) ?_
  refine lv_iconst (v := (nI 0)) C.x C.b dL_gaskets_153 (by decide) ?_
  refine lv_iconst (v := (nI 3)) C.x C.b dL_gaskets_154 (by decide) ?_
  refine k_cJ (As := [.int (nI 0), .int (nI 3)]) (rest := []) (c2 := 248) (s2 := 2392) (v := 3) (m1 := hS_gaskets_3) C hX (iop_curvature hst hI (nI 0) (nI 3)) (ev_curvature (by decide +kernel) (by decide +kernel)) hI.hd (gl_up inv_X8_curvature) rfl ⟨rfl, hdA_X8_curvature⟩ (by decide) rfl hl.1 rfl (by decide) dL_gaskets_155 ⟨Nat.le_of_ble_eq_true rfl, Nat.le_of_ble_eq_true rfl⟩ ⟨Nat.le_of_ble_eq_true rfl, Nat.le_of_ble_eq_true rfl⟩ rfl rfl (fun f H locs hX hI => ?_)
  refine lv_ldc2 (v := 3) C.x C.b C.ow (C.ts _ (List.mem_cons_of_mem _ lkC_655)) dL_gaskets_158 ?_
  refine k_lcmp_ne (tgt := 406) C.x C.b dL_gaskets_161 dL_gaskets_162 (by decide) (fun q9 => absurd (by decide) q9) (fun _ => ?_)
  refine lv_aload_n C.x C.b dL_gaskets_165 rfl (lv_at hl 0 rfl) ?_
  refine lv_iconst (v := (nI 0)) C.x C.b dL_gaskets_166 (by decide) ?_
  refine lv_iconst (v := (nI 1)) C.x C.b dL_gaskets_167 (by decide) ?_
  refine k_cF (As := [.int (nI 0), .int (nI 1)]) (rest := []) (c2 := 256) (s2 := 2456) (v := (kRad (hS_gaskets_3.fo (4 * (nI 0).toNatClampNeg + (nI 1).toNatClampNeg)))) (m1 := hS_gaskets_3) C hX ((iop_radius hst hI (nI 0) (nI 1)).1 (by decide +kernel)) (rfl) hI.hd (gl_up inv_X8_radius) rfl ⟨rfl, hdA_X8_radius⟩ (by decide) rfl hl.1 rfl (by decide) dL_gaskets_168 ⟨Nat.le_of_ble_eq_true rfl, Nat.le_of_ble_eq_true rfl⟩ ⟨Nat.le_of_ble_eq_true rfl, Nat.le_of_ble_eq_true rfl⟩ rfl rfl (fun f H locs hX hI => ?_)
  refine lv_ldcf (v := 1056964608) C.x C.b C.ow (C.ts _ (List.mem_cons_of_mem _ lkC_657)) dL_gaskets_171 ?_
  refine lv_fcmp C.x C.b dL_gaskets_173 ?_
  refine k_topi (y := (nI 0)) (by decide +kernel) ?_
  refine lv_if_ne (tgt := 406) C.x C.b dL_gaskets_174 (by decide) (fun q9 => absurd (by decide) q9) (fun _ => ?_)
  refine lv_aload_n C.x C.b dL_gaskets_177 rfl (lv_at hl 0 rfl) ?_
  refine lv_iconst (v := (nI 0)) C.x C.b dL_gaskets_178 (by decide) ?_
  refine lv_iconst (v := (nI 0)) C.x C.b dL_gaskets_179 (by decide) ?_
  refine k_cF (As := [.int (nI 0), .int (nI 0)]) (rest := []) (c2 := 264) (s2 := 2520) (v := (kRad (hS_gaskets_3.fo (4 * (nI 0).toNatClampNeg + (nI 0).toNatClampNeg)))) (m1 := hS_gaskets_3) C hX ((iop_radius hst hI (nI 0) (nI 0)).1 (by decide +kernel)) (rfl) hI.hd (gl_up inv_X8_radius) rfl ⟨rfl, hdA_X8_radius⟩ (by decide) rfl hl.1 rfl (by decide) dL_gaskets_180 ⟨Nat.le_of_ble_eq_true rfl, Nat.le_of_ble_eq_true rfl⟩ ⟨Nat.le_of_ble_eq_true rfl, Nat.le_of_ble_eq_true rfl⟩ rfl rfl (fun f H locs hX hI => ?_)
  refine lv_ldcf (v := 1032358025) C.x C.b C.ow (C.ts _ (List.mem_cons_of_mem _ lkC_658)) dL_gaskets_183 ?_
  refine lv_fcmp C.x C.b dL_gaskets_185 ?_
  refine k_topi (y := (nI 0)) (by decide +kernel) ?_
  refine lv_if_ne (tgt := 406) C.x C.b dL_gaskets_186 (by decide) (fun q9 => absurd (by decide) q9) (fun _ => ?_)
  refine lv_aload_n C.x C.b dL_gaskets_189 rfl (lv_at hl 0 rfl) ?_
  refine lv_iconst (v := (nI 0)) C.x C.b dL_gaskets_190 (by decide) ?_
  refine lv_iconst (v := (nI 2)) C.x C.b dL_gaskets_191 (by decide) ?_
  refine k_cJ (As := [.int (nI 0), .int (nI 2)]) (rest := []) (c2 := 272) (s2 := 2584) (v := 38) (m1 := _) C hX (iop_turn hst hI (nI 0) (nI 2)) (ev_turn 0 2 (by decide +kernel) (by decide) (by decide) (by decide +kernel) (by decide) rfl) hI.hd (gl_up inv_X8_turn) rfl ⟨rfl, hdA_X8_turn⟩ (by decide) rfl hl.1 rfl (by decide) dL_gaskets_192 ⟨Nat.le_of_ble_eq_true rfl, Nat.le_of_ble_eq_true rfl⟩ ⟨Nat.le_of_ble_eq_true rfl, Nat.le_of_ble_eq_true rfl⟩ rfl rfl (fun f H locs hX hI => ?_)
  have hI : Inv G h f hS_gaskets_4 := hI.cg (hL [15, 2, 38, 3, 0, 0, 0, 0, 0, 0, 0, 0, 0, 0, 0, 0, 0, 0, 0, 0, 0, 0, 0, 0, 0, 0, 0, 0, 0, 0, 0, 0]) (hL [(-1), 2, 2, 3, 0, 0, 0, 0, 0, 0, 0, 0, 0, 0, 0, 0, 0, 0, 0, 0, 0, 0, 0, 0, 0, 0, 0, 0, 0, 0, 0, 0]) (hL [1, 0, 0, 1]) (hE [0, 0, 0, 0, 0, 0, 0, 0, 0, 0]) (hE [0, 0, 0, 0, 0, 0, 0, 0, 0, 0]) ⟨by decide +kernel, by decide +kernel, by decide +kernel⟩
  refine lv_ldc2 (v := 38) C.x C.b C.ow (C.ts _ (List.mem_cons_of_mem _ lkC_659)) dL_gaskets_195 ?_
  refine k_lcmp_ne (tgt := 406) C.x C.b dL_gaskets_198 dL_gaskets_199 (by decide) (fun q9 => absurd (by decide) q9) (fun _ => ?_)
  refine lv_aload_n C.x C.b dL_gaskets_202 rfl (lv_at hl 0 rfl) ?_
  refine lv_iconst (v := (nI 0)) C.x C.b dL_gaskets_203 (by decide) ?_
  refine lv_ldc2 (v := (-1)) C.x C.b C.ow (C.ts _ (List.mem_cons_of_mem _ lkC_653)) dL_gaskets_204 ?_
  refine lv_ldc2 (v := 2) C.x C.b C.ow (C.ts _ (List.mem_cons_of_mem _ lkC_654)) dL_gaskets_207 ?_
  refine lv_ldc2 (v := 2) C.x C.b C.ow (C.ts _ (List.mem_cons_of_mem _ lkC_654)) dL_gaskets_210 ?_
  refine lv_ldc2 (v := 3) C.x C.b C.ow (C.ts _ (List.mem_cons_of_mem _ lkC_655)) dL_gaskets_213 ?_
  refine k_law (As := [.ref h, .int (nI 0), .long (-1), .long 2, .long 2, .long 3]) (rest := []) (c2 := 352) (s2 := 3224) (m1 := hS_gaskets_4) C hX (pL_roots hst hI (nI 0) (-1) 2 2 3 (ev_root (by decide +kernel) (by decide +kernel)) (ev_root (by decide +kernel) (by decide +kernel)) (ev_root (by decide +kernel) (by decide +kernel)) (ev_root (by decide +kernel) (by decide +kernel))) (gl_up inv_L_roots) rfl rfl rfl hdP_L_roots ⟨Nat.le_of_ble_eq_true rfl, Nat.le_of_ble_eq_true rfl⟩ rfl hl.1 rfl (by decide) dL_gaskets_216 ⟨Nat.le_of_ble_eq_true rfl, Nat.le_of_ble_eq_true rfl⟩ rfl rfl (fun f H locs hX hI => ?_)
  refine lv_if_eq (tgt := 406) C.x C.b dL_gaskets_219 (by decide) (fun q9 => absurd q9 (by decide)) (fun _ => ?_)
  refine lv_aload_n C.x C.b dL_gaskets_222 rfl (lv_at hl 0 rfl) ?_
  refine lv_iconst (v := (nI 0)) C.x C.b dL_gaskets_223 (by decide) ?_
  refine lv_iconst (v := (nI 1)) C.x C.b dL_gaskets_224 (by decide) ?_
  refine lv_iconst (v := (nI 1)) C.x C.b dL_gaskets_225 (by decide) ?_
  refine k_law (As := [.ref h, .int (nI 0), .int (nI 1), .int (nI 1)]) (rest := []) (c2 := 432) (s2 := 3864) (m1 := hS_gaskets_4) C hX (pL_count hst hI (nI 0) (nI 1) (nI 1) (ev_count (by decide +kernel) (by decide +kernel) (by decide +kernel) (by decide +kernel)) (ev_countAnew (by decide +kernel) (by decide +kernel) (by decide +kernel) (by decide +kernel))) (gl_up inv_L_count) rfl rfl rfl hdP_L_count ⟨Nat.le_of_ble_eq_true rfl, Nat.le_of_ble_eq_true rfl⟩ rfl hl.1 rfl (by decide) dL_gaskets_226 ⟨Nat.le_of_ble_eq_true rfl, Nat.le_of_ble_eq_true rfl⟩ rfl rfl (fun f H locs hX hI => ?_)
  refine lv_if_eq (tgt := 406) C.x C.b dL_gaskets_229 (by decide) (fun q9 => absurd q9 (by decide)) (fun _ => ?_)
  refine lv_aload_n C.x C.b dL_gaskets_232 rfl (lv_at hl 0 rfl) ?_
  refine lv_iconst (v := (nI 0)) C.x C.b dL_gaskets_233 (by decide) ?_
  refine lv_iconst (v := (nI 2)) C.x C.b dL_gaskets_234 (by decide) ?_
  refine lv_iconst (v := (nI 3)) C.x C.b dL_gaskets_235 (by decide) ?_
  refine k_law (As := [.ref h, .int (nI 0), .int (nI 2), .int (nI 3)]) (rest := []) (c2 := 512) (s2 := 4504) (m1 := hS_gaskets_4) C hX (pL_count hst hI (nI 0) (nI 2) (nI 3) (ev_count (by decide +kernel) (by decide +kernel) (by decide +kernel) (by decide +kernel)) (ev_countAnew (by decide +kernel) (by decide +kernel) (by decide +kernel) (by decide +kernel))) (gl_up inv_L_count) rfl rfl rfl hdP_L_count ⟨Nat.le_of_ble_eq_true rfl, Nat.le_of_ble_eq_true rfl⟩ rfl hl.1 rfl (by decide) dL_gaskets_236 ⟨Nat.le_of_ble_eq_true rfl, Nat.le_of_ble_eq_true rfl⟩ rfl rfl (fun f H locs hX hI => ?_)
  refine lv_if_eq (tgt := 406) C.x C.b dL_gaskets_239 (by decide) (fun q9 => absurd q9 (by decide)) (fun _ => ?_)
  refine lv_aload_n C.x C.b dL_gaskets_242 rfl (lv_at hl 0 rfl) ?_
  refine lv_iconst (v := (nI 0)) C.x C.b dL_gaskets_243 (by decide) ?_
  refine lv_iconst (v := (nI 3)) C.x C.b dL_gaskets_244 (by decide) ?_
  refine lv_iconst (v := (nI 5)) C.x C.b dL_gaskets_245 (by decide) ?_
  refine k_law (As := [.ref h, .int (nI 0), .int (nI 3), .int (nI 5)]) (rest := []) (c2 := 592) (s2 := 5144) (m1 := hS_gaskets_4) C hX (pL_count hst hI (nI 0) (nI 3) (nI 5) (ev_count (by decide +kernel) (by decide +kernel) (by decide +kernel) (by decide +kernel)) (ev_countAnew (by decide +kernel) (by decide +kernel) (by decide +kernel) (by decide +kernel))) (gl_up inv_L_count) rfl rfl rfl hdP_L_count ⟨Nat.le_of_ble_eq_true rfl, Nat.le_of_ble_eq_true rfl⟩ rfl hl.1 rfl (by decide) dL_gaskets_246 ⟨Nat.le_of_ble_eq_true rfl, Nat.le_of_ble_eq_true rfl⟩ rfl rfl (fun f H locs hX hI => ?_)
  refine lv_if_eq (tgt := 406) C.x C.b dL_gaskets_249 (by decide) (fun q9 => absurd q9 (by decide)) (fun _ => ?_)
  refine lv_aload_n C.x C.b dL_gaskets_252 rfl (lv_at hl 0 rfl) ?_
  refine lv_iconst (v := (nI 0)) C.x C.b dL_gaskets_253 (by decide) ?_
  refine lv_iconst (v := (nI 5)) C.x C.b dL_gaskets_254 (by decide) ?_
  refine lv_iconst (v := (nI 5)) C.x C.b dL_gaskets_255 (by decide) ?_
  refine k_law (As := [.ref h, .int (nI 0), .int (nI 5), .int (nI 5)]) (rest := []) (c2 := 672) (s2 := 5784) (m1 := hS_gaskets_4) C hX (pL_count hst hI (nI 0) (nI 5) (nI 5) (ev_count (by decide +kernel) (by decide +kernel) (by decide +kernel) (by decide +kernel)) (ev_countAnew (by decide +kernel) (by decide +kernel) (by decide +kernel) (by decide +kernel))) (gl_up inv_L_count) rfl rfl rfl hdP_L_count ⟨Nat.le_of_ble_eq_true rfl, Nat.le_of_ble_eq_true rfl⟩ rfl hl.1 rfl (by decide) dL_gaskets_256 ⟨Nat.le_of_ble_eq_true rfl, Nat.le_of_ble_eq_true rfl⟩ rfl rfl (fun f H locs hX hI => ?_)
  refine lv_if_eq (tgt := 406) C.x C.b dL_gaskets_259 (by decide) (fun q9 => absurd q9 (by decide)) (fun _ => ?_)
  refine lv_aload_n C.x C.b dL_gaskets_262 rfl (lv_at hl 0 rfl) ?_
  refine lv_iconst (v := (nI 0)) C.x C.b dL_gaskets_263 (by decide) ?_
  refine lv_bipush (v := (nI 6)) C.x C.b dL_gaskets_264 (by decide) ?_
  refine lv_bipush (v := (nI 9)) C.x C.b dL_gaskets_266 (by decide) ?_
  refine k_law (As := [.ref h, .int (nI 0), .int (nI 6), .int (nI 9)]) (rest := []) (c2 := 752) (s2 := 6424) (m1 := hS_gaskets_4) C hX (pL_count hst hI (nI 0) (nI 6) (nI 9) (ev_count (by decide +kernel) (by decide +kernel) (by decide +kernel) (by decide +kernel)) (ev_countAnew (by decide +kernel) (by decide +kernel) (by decide +kernel) (by decide +kernel))) (gl_up inv_L_count) rfl rfl rfl hdP_L_count ⟨Nat.le_of_ble_eq_true rfl, Nat.le_of_ble_eq_true rfl⟩ rfl hl.1 rfl (by decide) dL_gaskets_268 ⟨Nat.le_of_ble_eq_true rfl, Nat.le_of_ble_eq_true rfl⟩ rfl rfl (fun f H locs hX hI => ?_)
  refine lv_if_eq (tgt := 406) C.x C.b dL_gaskets_271 (by decide) (fun q9 => absurd q9 (by decide)) (fun _ => ?_)
  refine lv_aload_n C.x C.b dL_gaskets_274 rfl (lv_at hl 0 rfl) ?_
  refine lv_iconst (v := (nI 0)) C.x C.b dL_gaskets_275 (by decide) ?_
  refine lv_bipush (v := (nI 10)) C.x C.b dL_gaskets_276 (by decide) ?_
  refine lv_bipush (v := (nI 9)) C.x C.b dL_gaskets_278 (by decide) ?_
  refine k_law (As := [.ref h, .int (nI 0), .int (nI 10), .int (nI 9)]) (rest := []) (c2 := 832) (s2 := 7064) (m1 := hS_gaskets_4) C hX (pL_count hst hI (nI 0) (nI 10) (nI 9) (ev_count (by decide +kernel) (by decide +kernel) (by decide +kernel) (by decide +kernel)) (ev_countAnew (by decide +kernel) (by decide +kernel) (by decide +kernel) (by decide +kernel))) (gl_up inv_L_count) rfl rfl rfl hdP_L_count ⟨Nat.le_of_ble_eq_true rfl, Nat.le_of_ble_eq_true rfl⟩ rfl hl.1 rfl (by decide) dL_gaskets_280 ⟨Nat.le_of_ble_eq_true rfl, Nat.le_of_ble_eq_true rfl⟩ rfl rfl (fun f H locs hX hI => ?_)
  refine lv_if_eq (tgt := 406) C.x C.b dL_gaskets_283 (by decide) (fun q9 => absurd q9 (by decide)) (fun _ => ?_)
  refine lv_aload_n C.x C.b dL_gaskets_286 rfl (lv_at hl 0 rfl) ?_
  refine lv_iconst (v := (nI 0)) C.x C.b dL_gaskets_287 (by decide) ?_
  refine lv_bipush (v := (nI 11)) C.x C.b dL_gaskets_288 (by decide) ?_
  refine lv_bipush (v := (nI 13)) C.x C.b dL_gaskets_290 (by decide) ?_
  refine k_law (As := [.ref h, .int (nI 0), .int (nI 11), .int (nI 13)]) (rest := []) (c2 := 912) (s2 := 7704) (m1 := hS_gaskets_4) C hX (pL_count hst hI (nI 0) (nI 11) (nI 13) (ev_count (by decide +kernel) (by decide +kernel) (by decide +kernel) (by decide +kernel)) (ev_countAnew (by decide +kernel) (by decide +kernel) (by decide +kernel) (by decide +kernel))) (gl_up inv_L_count) rfl rfl rfl hdP_L_count ⟨Nat.le_of_ble_eq_true rfl, Nat.le_of_ble_eq_true rfl⟩ rfl hl.1 rfl (by decide) dL_gaskets_292 ⟨Nat.le_of_ble_eq_true rfl, Nat.le_of_ble_eq_true rfl⟩ rfl rfl (fun f H locs hX hI => ?_)
  refine lv_if_eq (tgt := 406) C.x C.b dL_gaskets_295 (by decide) (fun q9 => absurd q9 (by decide)) (fun _ => ?_)
  refine lv_aload_n C.x C.b dL_gaskets_298 rfl (lv_at hl 0 rfl) ?_
  refine lv_iconst (v := (nI 0)) C.x C.b dL_gaskets_299 (by decide) ?_
  refine lv_bipush (v := (nI 14)) C.x C.b dL_gaskets_300 (by decide) ?_
  refine lv_bipush (v := (nI 17)) C.x C.b dL_gaskets_302 (by decide) ?_
  refine k_law (As := [.ref h, .int (nI 0), .int (nI 14), .int (nI 17)]) (rest := []) (c2 := 992) (s2 := 8344) (m1 := hS_gaskets_4) C hX (pL_count hst hI (nI 0) (nI 14) (nI 17) (ev_count (by decide +kernel) (by decide +kernel) (by decide +kernel) (by decide +kernel)) (ev_countAnew (by decide +kernel) (by decide +kernel) (by decide +kernel) (by decide +kernel))) (gl_up inv_L_count) rfl rfl rfl hdP_L_count ⟨Nat.le_of_ble_eq_true rfl, Nat.le_of_ble_eq_true rfl⟩ rfl hl.1 rfl (by decide) dL_gaskets_304 ⟨Nat.le_of_ble_eq_true rfl, Nat.le_of_ble_eq_true rfl⟩ rfl rfl (fun f H locs hX hI => ?_)
  refine lv_if_eq (tgt := 406) C.x C.b dL_gaskets_307 (by decide) (fun q9 => absurd q9 (by decide)) (fun _ => ?_)
  refine lv_aload_n C.x C.b dL_gaskets_310 rfl (lv_at hl 0 rfl) ?_
  refine lv_iconst (v := (nI 0)) C.x C.b dL_gaskets_311 (by decide) ?_
  refine lv_bipush (v := (nI 15)) C.x C.b dL_gaskets_312 (by decide) ?_
  refine lv_bipush (v := (nI 19)) C.x C.b dL_gaskets_314 (by decide) ?_
  refine k_law (As := [.ref h, .int (nI 0), .int (nI 15), .int (nI 19)]) (rest := []) (c2 := 1072) (s2 := 8984) (m1 := hS_gaskets_4) C hX (pL_count hst hI (nI 0) (nI 15) (nI 19) (ev_count (by decide +kernel) (by decide +kernel) (by decide +kernel) (by decide +kernel)) (ev_countAnew (by decide +kernel) (by decide +kernel) (by decide +kernel) (by decide +kernel))) (gl_up inv_L_count) rfl rfl rfl hdP_L_count ⟨Nat.le_of_ble_eq_true rfl, Nat.le_of_ble_eq_true rfl⟩ rfl hl.1 rfl (by decide) dL_gaskets_316 ⟨Nat.le_of_ble_eq_true rfl, Nat.le_of_ble_eq_true rfl⟩ rfl rfl (fun f H locs hX hI => ?_)
  refine lv_if_eq (tgt := 406) C.x C.b dL_gaskets_319 (by decide) (fun q9 => absurd q9 (by decide)) (fun _ => ?_)
  refine lv_aload_n C.x C.b dL_gaskets_322 rfl (lv_at hl 0 rfl) ?_
  refine lv_iconst (v := (nI 0)) C.x C.b dL_gaskets_323 (by decide) ?_
  refine lv_iconst (v := (nI 2)) C.x C.b dL_gaskets_324 (by decide) ?_
  refine k_cI (As := [.int (nI 0), .int (nI 2)]) (rest := []) (c2 := 1080) (s2 := 9048) (v := (nI 3)) (m1 := hS_gaskets_4) C hX (iop_remainders hst hI (nI 0) (nI 2)) (ev_remainders (by decide +kernel) (by decide +kernel) (by decide +kernel)) hI.hd (gl_up inv_X8_remainders) rfl ⟨rfl, hdA_X8_remainders⟩ (by decide) rfl hl.1 rfl (by decide) dL_gaskets_325 ⟨Nat.le_of_ble_eq_true rfl, Nat.le_of_ble_eq_true rfl⟩ ⟨Nat.le_of_ble_eq_true rfl, Nat.le_of_ble_eq_true rfl⟩ rfl rfl (fun f H locs hX hI => ?_)
  refine lv_iconst (v := (nI 3)) C.x C.b dL_gaskets_328 (by decide) ?_
  refine lv_icmp_ne (tgt := 406) C.x C.b dL_gaskets_329 (by decide) (fun q9 => absurd (by decide) q9) (fun _ => ?_)
  refine lv_aload_n C.x C.b dL_gaskets_332 rfl (lv_at hl 0 rfl) ?_
  refine lv_iconst (v := (nI 0)) C.x C.b dL_gaskets_333 (by decide) ?_
  refine lv_iconst (v := (nI 3)) C.x C.b dL_gaskets_334 (by decide) ?_
  refine k_cI (As := [.int (nI 0), .int (nI 3)]) (rest := []) (c2 := 1088) (s2 := 9112) (v := (nI 5)) (m1 := hS_gaskets_4) C hX (iop_remainders hst hI (nI 0) (nI 3)) (ev_remainders (by decide +kernel) (by decide +kernel) (by decide +kernel)) hI.hd (gl_up inv_X8_remainders) rfl ⟨rfl, hdA_X8_remainders⟩ (by decide) rfl hl.1 rfl (by decide) dL_gaskets_335 ⟨Nat.le_of_ble_eq_true rfl, Nat.le_of_ble_eq_true rfl⟩ ⟨Nat.le_of_ble_eq_true rfl, Nat.le_of_ble_eq_true rfl⟩ rfl rfl (fun f H locs hX hI => ?_)
  refine lv_iconst (v := (nI 5)) C.x C.b dL_gaskets_338 (by decide) ?_
  refine lv_icmp_ne (tgt := 406) C.x C.b dL_gaskets_339 (by decide) (fun q9 => absurd (by decide) q9) (fun _ => ?_)
  refine lv_aload_n C.x C.b dL_gaskets_342 rfl (lv_at hl 0 rfl) ?_
  refine lv_iconst (v := (nI 0)) C.x C.b dL_gaskets_343 (by decide) ?_
  refine lv_iconst (v := (nI 0)) C.x C.b dL_gaskets_344 (by decide) ?_
  refine k_cJ (As := [.int (nI 0), .int (nI 0)]) (rest := []) (c2 := 1096) (s2 := 9176) (v := 71) (m1 := _) C hX (iop_turn hst hI (nI 0) (nI 0)) (ev_turn 0 0 (by decide +kernel) (by decide) (by decide) (by decide +kernel) (by decide) rfl) hI.hd (gl_up inv_X8_turn) rfl ⟨rfl, hdA_X8_turn⟩ (by decide) rfl hl.1 rfl (by decide) dL_gaskets_345 ⟨Nat.le_of_ble_eq_true rfl, Nat.le_of_ble_eq_true rfl⟩ ⟨Nat.le_of_ble_eq_true rfl, Nat.le_of_ble_eq_true rfl⟩ rfl rfl (fun f H locs hX hI => ?_)
  have hI : Inv G h f hS_gaskets_5 := hI.cg (hL [71, 2, 38, 3, 0, 0, 0, 0, 0, 0, 0, 0, 0, 0, 0, 0, 0, 0, 0, 0, 0, 0, 0, 0, 0, 0, 0, 0, 0, 0, 0, 0]) (hL [(-1), 2, 2, 3, 0, 0, 0, 0, 0, 0, 0, 0, 0, 0, 0, 0, 0, 0, 0, 0, 0, 0, 0, 0, 0, 0, 0, 0, 0, 0, 0, 0]) (hL [1, 0, 0, 1]) (hE [0, 0, 0, 0, 0, 0, 0, 0, 0, 0]) (hE [0, 0, 0, 0, 0, 0, 0, 0, 0, 0]) ⟨by decide +kernel, by decide +kernel, by decide +kernel⟩
  refine lv_ldc2 (v := 71) C.x C.b C.ow (C.ts _ (List.mem_cons_of_mem _ lkC_660)) dL_gaskets_348 ?_
  refine k_lcmp_ne (tgt := 406) C.x C.b dL_gaskets_351 dL_gaskets_352 (by decide) (fun q9 => absurd (by decide) q9) (fun _ => ?_)
  refine lv_aload_n C.x C.b dL_gaskets_355 rfl (lv_at hl 0 rfl) ?_
  refine lv_iconst (v := (nI 0)) C.x C.b dL_gaskets_356 (by decide) ?_
  refine lv_iconst (v := (nI 0)) C.x C.b dL_gaskets_357 (by decide) ?_
  refine k_cJ (As := [.int (nI 0), .int (nI 0)]) (rest := []) (c2 := 1104) (s2 := 9240) (v := 15) (m1 := _) C hX (iop_turn hst hI (nI 0) (nI 0)) (ev_turn 0 0 (by decide +kernel) (by decide) (by decide) (by decide +kernel) (by decide) rfl) hI.hd (gl_up inv_X8_turn) rfl ⟨rfl, hdA_X8_turn⟩ (by decide) rfl hl.1 rfl (by decide) dL_gaskets_358 ⟨Nat.le_of_ble_eq_true rfl, Nat.le_of_ble_eq_true rfl⟩ ⟨Nat.le_of_ble_eq_true rfl, Nat.le_of_ble_eq_true rfl⟩ rfl rfl (fun f H locs hX hI => ?_)
  have hI : Inv G h f hS_gaskets_6 := hI.cg (hL [15, 2, 38, 3, 0, 0, 0, 0, 0, 0, 0, 0, 0, 0, 0, 0, 0, 0, 0, 0, 0, 0, 0, 0, 0, 0, 0, 0, 0, 0, 0, 0]) (hL [(-1), 2, 2, 3, 0, 0, 0, 0, 0, 0, 0, 0, 0, 0, 0, 0, 0, 0, 0, 0, 0, 0, 0, 0, 0, 0, 0, 0, 0, 0, 0, 0]) (hL [1, 0, 0, 1]) (hE [0, 0, 0, 0, 0, 0, 0, 0, 0, 0]) (hE [0, 0, 0, 0, 0, 0, 0, 0, 0, 0]) ⟨by decide +kernel, by decide +kernel, by decide +kernel⟩
  refine lv_ldc2 (v := 15) C.x C.b C.ow (C.ts _ (List.mem_cons_of_mem _ lkC_656)) dL_gaskets_361 ?_
  refine k_lcmp_ne (tgt := 406) C.x C.b dL_gaskets_364 dL_gaskets_365 (by decide) (fun q9 => absurd (by decide) q9) (fun _ => ?_)
  refine lv_aload_n C.x C.b dL_gaskets_368 rfl (lv_at hl 0 rfl) ?_
  refine lv_iconst (v := (nI 0)) C.x C.b dL_gaskets_369 (by decide) ?_
  refine lv_iconst (v := (nI 2)) C.x C.b dL_gaskets_370 (by decide) ?_
  refine k_cJ (As := [.int (nI 0), .int (nI 2)]) (rest := []) (c2 := 1112) (s2 := 9304) (v := 2) (m1 := _) C hX (iop_turn hst hI (nI 0) (nI 2)) (ev_turn 0 2 (by decide +kernel) (by decide) (by decide) (by decide +kernel) (by decide) rfl) hI.hd (gl_up inv_X8_turn) rfl ⟨rfl, hdA_X8_turn⟩ (by decide) rfl hl.1 rfl (by decide) dL_gaskets_371 ⟨Nat.le_of_ble_eq_true rfl, Nat.le_of_ble_eq_true rfl⟩ ⟨Nat.le_of_ble_eq_true rfl, Nat.le_of_ble_eq_true rfl⟩ rfl rfl (fun f H locs hX hI => ?_)
  have hI : Inv G h f hS_gaskets_7 := hI.cg (hL [15, 2, 2, 3, 0, 0, 0, 0, 0, 0, 0, 0, 0, 0, 0, 0, 0, 0, 0, 0, 0, 0, 0, 0, 0, 0, 0, 0, 0, 0, 0, 0]) (hL [(-1), 2, 2, 3, 0, 0, 0, 0, 0, 0, 0, 0, 0, 0, 0, 0, 0, 0, 0, 0, 0, 0, 0, 0, 0, 0, 0, 0, 0, 0, 0, 0]) (hL [1, 0, 0, 1]) (hE [0, 0, 0, 0, 0, 0, 0, 0, 0, 0]) (hE [0, 0, 0, 0, 0, 0, 0, 0, 0, 0]) ⟨by decide +kernel, by decide +kernel, by decide +kernel⟩
  refine lv_ldc2 (v := 2) C.x C.b C.ow (C.ts _ (List.mem_cons_of_mem _ lkC_654)) dL_gaskets_374 ?_
  refine k_lcmp_ne (tgt := 406) C.x C.b dL_gaskets_377 dL_gaskets_378 (by decide) (fun q9 => absurd (by decide) q9) (fun _ => ?_)
  refine lv_aload_n C.x C.b dL_gaskets_381 rfl (lv_at hl 0 rfl) ?_
  refine lv_iconst (v := (nI 0)) C.x C.b dL_gaskets_382 (by decide) ?_
  refine lv_iconst (v := (nI 0)) C.x C.b dL_gaskets_383 (by decide) ?_
  refine k_cJ (As := [.int (nI 0), .int (nI 0)]) (rest := []) (c2 := 1120) (s2 := 9368) (v := (-1)) (m1 := _) C hX (iop_turn hst hI (nI 0) (nI 0)) (ev_turn 0 0 (by decide +kernel) (by decide) (by decide) (by decide +kernel) (by decide) rfl) hI.hd (gl_up inv_X8_turn) rfl ⟨rfl, hdA_X8_turn⟩ (by decide) rfl hl.1 rfl (by decide) dL_gaskets_384 ⟨Nat.le_of_ble_eq_true rfl, Nat.le_of_ble_eq_true rfl⟩ ⟨Nat.le_of_ble_eq_true rfl, Nat.le_of_ble_eq_true rfl⟩ rfl rfl (fun f H locs hX hI => ?_)
  have hI : Inv G h f hS_gaskets_8 := hI.cg (hL [(-1), 2, 2, 3, 0, 0, 0, 0, 0, 0, 0, 0, 0, 0, 0, 0, 0, 0, 0, 0, 0, 0, 0, 0, 0, 0, 0, 0, 0, 0, 0, 0]) (hL [(-1), 2, 2, 3, 0, 0, 0, 0, 0, 0, 0, 0, 0, 0, 0, 0, 0, 0, 0, 0, 0, 0, 0, 0, 0, 0, 0, 0, 0, 0, 0, 0]) (hL [1, 0, 0, 1]) (hE [0, 0, 0, 0, 0, 0, 0, 0, 0, 0]) (hE [0, 0, 0, 0, 0, 0, 0, 0, 0, 0]) ⟨by decide +kernel, by decide +kernel, by decide +kernel⟩
  refine lv_ldc2 (v := (-1)) C.x C.b C.ow (C.ts _ (List.mem_cons_of_mem _ lkC_653)) dL_gaskets_387 ?_
  refine k_lcmp_ne (tgt := 406) C.x C.b dL_gaskets_390 dL_gaskets_391 (by decide) (fun q9 => absurd (by decide) q9) (fun _ => ?_)
  refine lv_aload_n C.x C.b dL_gaskets_394 rfl (lv_at hl 0 rfl) ?_
  refine lv_iconst (v := (nI 0)) C.x C.b dL_gaskets_395 (by decide) ?_
  refine lv_iconst (v := (nI 0)) C.x C.b dL_gaskets_396 (by decide) ?_
  refine k_cF (As := [.int (nI 0), .int (nI 0)]) (rest := []) (c2 := 1128) (s2 := 9432) (v := (kRad (hS_gaskets_8.fo (4 * (nI 0).toNatClampNeg + (nI 0).toNatClampNeg)))) (m1 := hS_gaskets_8) C hX ((iop_radius hst hI (nI 0) (nI 0)).1 (by decide +kernel)) (rfl) hI.hd (gl_up inv_X8_radius) rfl ⟨rfl, hdA_X8_radius⟩ (by decide) rfl hl.1 rfl (by decide) dL_gaskets_397 ⟨Nat.le_of_ble_eq_true rfl, Nat.le_of_ble_eq_true rfl⟩ ⟨Nat.le_of_ble_eq_true rfl, Nat.le_of_ble_eq_true rfl⟩ rfl rfl (fun f H locs hX hI => ?_)
  refine lv_ldcf (v := 3212836864) C.x C.b C.ow (C.ts _ (List.mem_cons_of_mem _ lkC_661)) dL_gaskets_400 ?_
  refine lv_fcmp C.x C.b dL_gaskets_402 ?_
  refine k_topi (y := (nI 0)) (by decide +kernel) ?_
  refine lv_if_eq (tgt := 408) C.x C.b dL_gaskets_403 (by decide) (fun _ => ?_) (fun q9 => absurd (by decide) q9)
  refine lv_aload_n C.x C.b dL_gaskets_408 rfl (lv_at hl 0 rfl) ?_
  refine lv_iconst (v := (nI 0)) C.x C.b dL_gaskets_409 (by decide) ?_
  refine lv_iconst (v := (nI 1)) C.x C.b dL_gaskets_410 (by decide) ?_
  refine lv_iconst (v := (nI 1)) C.x C.b dL_gaskets_411 (by decide) ?_
  refine lv_iconst (v := (nI 4)) C.x C.b dL_gaskets_412 (by decide) ?_
  refine k_cI (As := [.int (nI 0), .int (nI 1), .int (nI 1), .int (nI 4)]) (rest := []) (c2 := 1136) (s2 := 9496) (v := (nI 1)) (m1 := _) C hX (iop_gasket hst hI (nI 0) (nI 1) (nI 1) (nI 4)) (ev_gasket 1 (by decide +kernel) (by decide) rfl rfl) hI.hd (gl_up inv_X8_gasket) rfl ⟨rfl, hdA_X8_gasket⟩ (by decide) rfl hl.1 rfl (by decide) dL_gaskets_413 ⟨Nat.le_of_ble_eq_true rfl, Nat.le_of_ble_eq_true rfl⟩ ⟨Nat.le_of_ble_eq_true rfl, Nat.le_of_ble_eq_true rfl⟩ rfl rfl (fun f H locs hX hI => ?_)
  have hI : Inv G h f hS_gaskets_9 := hI.cg (hL [(-1), 2, 2, 3, 0, 1, 1, 4, 0, 0, 0, 0, 0, 0, 0, 0, 0, 0, 0, 0, 0, 0, 0, 0, 0, 0, 0, 0, 0, 0, 0, 0]) (hL [(-1), 2, 2, 3, 0, 0, 1, 1, 0, 0, 0, 0, 0, 0, 0, 0, 0, 0, 0, 0, 0, 0, 0, 0, 0, 0, 0, 0, 0, 0, 0, 0]) (hL [1, 0, 0, 1]) (hE [0, 0, 0, 0, 0, 0, 0, 0, 0, 0]) (hE [0, 0, 0, 0, 0, 0, 0, 0, 0, 0]) ⟨by decide +kernel, by decide +kernel, by decide +kernel⟩
  refine lv_iconst (v := (nI 1)) C.x C.b dL_gaskets_416 (by decide) ?_
  refine lv_icmp_ne (tgt := 619) C.x C.b dL_gaskets_417 (by decide) (fun q9 => absurd (by decide) q9) (fun _ => ?_)
  refine lv_aload_n C.x C.b dL_gaskets_420 rfl (lv_at hl 0 rfl) ?_
  refine lv_iconst (v := (nI 1)) C.x C.b dL_gaskets_421 (by decide) ?_
  refine lv_lconst (v := 0) C.x C.b dL_gaskets_422 (by decide) ?_
  refine lv_lconst (v := 0) C.x C.b dL_gaskets_423 (by decide) ?_
  refine lv_lconst (v := 1) C.x C.b dL_gaskets_424 (by decide) ?_
  refine lv_lconst (v := 1) C.x C.b dL_gaskets_425 (by decide) ?_
  refine k_law (As := [.ref h, .int (nI 1), .long 0, .long 0, .long 1, .long 1]) (rest := []) (c2 := 1216) (s2 := 10136) (m1 := hS_gaskets_9) C hX (pL_roots hst hI (nI 1) 0 0 1 1 (ev_root (by decide +kernel) (by decide +kernel)) (ev_root (by decide +kernel) (by decide +kernel)) (ev_root (by decide +kernel) (by decide +kernel)) (ev_root (by decide +kernel) (by decide +kernel))) (gl_up inv_L_roots) rfl rfl rfl hdP_L_roots ⟨Nat.le_of_ble_eq_true rfl, Nat.le_of_ble_eq_true rfl⟩ rfl hl.1 rfl (by decide) dL_gaskets_426 ⟨Nat.le_of_ble_eq_true rfl, Nat.le_of_ble_eq_true rfl⟩ rfl rfl (fun f H locs hX hI => ?_)
  refine lv_if_eq (tgt := 619) C.x C.b dL_gaskets_429 (by decide) (fun q9 => absurd q9 (by decide)) (fun _ => ?_)
  refine lv_aload_n C.x C.b dL_gaskets_432 rfl (lv_at hl 0 rfl) ?_
  refine lv_bipush (v := (nI 14)) C.x C.b dL_gaskets_433 (by decide) ?_
  refine lv_iconst (v := (nI 1)) C.x C.b dL_gaskets_435 (by decide) ?_
  refine lv_iconst (v := (nI 5)) C.x C.b dL_gaskets_436 (by decide) ?_
  refine lv_iconst (v := (nI 0)) C.x C.b dL_gaskets_437 (by decide) ?_
  refine lv_iconst (v := (nI 0)) C.x C.b dL_gaskets_438 (by decide) ?_
  refine k_actI (As := [.ref h, .int (nI 14), .int (nI 1), .int (nI 5), .int (nI 0), .int (nI 0)]) (rest := []) (c2 := 1224) (s2 := 10200) (v := (-7000003)) (m1 := hS_gaskets_9) C hX (act_14 hI.hd (nI 1) (nI 5) (nI 0) (nI 0) (iop_count hst hI (nI 1) (nI 5))) (e_count_s (by decide +kernel) (by decide +kernel) (by decide +kernel)) (rfl) (gl_up inv_L_act) rfl hl.1 rfl (by decide) dL_gaskets_439 ⟨Nat.le_of_ble_eq_true rfl, Nat.le_of_ble_eq_true rfl⟩ ⟨Nat.le_of_ble_eq_true rfl, Nat.le_of_ble_eq_true rfl⟩ rfl rfl (fun f H locs hX hI => ?_)
  refine lv_ldc2 (v := (-7000003)) C.x C.b C.ow (C.ts _ (List.mem_cons_of_mem _ lkC_4)) dL_gaskets_442 ?_
  refine k_lcmp_ne (tgt := 619) C.x C.b dL_gaskets_445 dL_gaskets_446 (by decide) (fun q9 => absurd (by decide) q9) (fun _ => ?_)
  refine lv_aload_n C.x C.b dL_gaskets_449 rfl (lv_at hl 0 rfl) ?_
  refine lv_bipush (v := (nI 15)) C.x C.b dL_gaskets_450 (by decide) ?_
  refine lv_iconst (v := (nI 1)) C.x C.b dL_gaskets_452 (by decide) ?_
  refine lv_iconst (v := (nI 5)) C.x C.b dL_gaskets_453 (by decide) ?_
  refine lv_iconst (v := (nI 0)) C.x C.b dL_gaskets_454 (by decide) ?_
  refine lv_iconst (v := (nI 0)) C.x C.b dL_gaskets_455 (by decide) ?_
  refine k_actI (As := [.ref h, .int (nI 15), .int (nI 1), .int (nI 5), .int (nI 0), .int (nI 0)]) (rest := []) (c2 := 1232) (s2 := 10264) (v := (-7000003)) (m1 := hS_gaskets_9) C hX (act_15 hI.hd (nI 1) (nI 5) (nI 0) (nI 0) (iop_countAnew hst hI (nI 1) (nI 5))) (e_countAnew_s (by decide +kernel) (by decide +kernel) (by decide +kernel)) (rfl) (gl_up inv_L_act) rfl hl.1 rfl (by decide) dL_gaskets_456 ⟨Nat.le_of_ble_eq_true rfl, Nat.le_of_ble_eq_true rfl⟩ ⟨Nat.le_of_ble_eq_true rfl, Nat.le_of_ble_eq_true rfl⟩ rfl rfl (fun f H locs hX hI => ?_)
  refine lv_ldc2 (v := (-7000003)) C.x C.b C.ow (C.ts _ (List.mem_cons_of_mem _ lkC_4)) dL_gaskets_459 ?_
  refine k_lcmp_ne (tgt := 619) C.x C.b dL_gaskets_462 dL_gaskets_463 (by decide) (fun q9 => absurd (by decide) q9) (fun _ => ?_)
  refine lv_aload_n C.x C.b dL_gaskets_466 rfl (lv_at hl 0 rfl) ?_
  refine lv_iconst (v := (nI 1)) C.x C.b dL_gaskets_467 (by decide) ?_
  refine lv_iconst (v := (nI 0)) C.x C.b dL_gaskets_468 (by decide) ?_
  refine k_cF (As := [.int (nI 1), .int (nI 0)]) (rest := []) (c2 := 1240) (s2 := 10328) (v := (kRad (hS_gaskets_9.fo (4 * (nI 1).toNatClampNeg + (nI 0).toNatClampNeg)))) (m1 := hS_gaskets_9) C hX ((iop_radius hst hI (nI 1) (nI 0)).1 (by decide +kernel)) (rfl) hI.hd (gl_up inv_X8_radius) rfl ⟨rfl, hdA_X8_radius⟩ (by decide) rfl hl.1 rfl (by decide) dL_gaskets_469 ⟨Nat.le_of_ble_eq_true rfl, Nat.le_of_ble_eq_true rfl⟩ ⟨Nat.le_of_ble_eq_true rfl, Nat.le_of_ble_eq_true rfl⟩ rfl rfl (fun f H locs hX hI => ?_)
  refine lv_ldcf (v := 1232348160) C.x C.b C.ow (C.ts _ (List.mem_cons_of_mem _ lkC_662)) dL_gaskets_472 ?_
  refine lv_fcmp C.x C.b dL_gaskets_474 ?_
  refine k_topi (y := (nI 1)) (by decide +kernel) ?_
  refine lv_if_le (tgt := 619) C.x C.b dL_gaskets_475 (by decide) (fun q9 => absurd q9 (by decide)) (fun _ => ?_)
  refine lv_aload_n C.x C.b dL_gaskets_478 rfl (lv_at hl 0 rfl) ?_
  refine lv_iconst (v := (nI 1)) C.x C.b dL_gaskets_479 (by decide) ?_
  refine lv_iconst (v := (nI 3)) C.x C.b dL_gaskets_480 (by decide) ?_
  refine k_cJ (As := [.int (nI 1), .int (nI 3)]) (rest := []) (c2 := 1248) (s2 := 10392) (v := 0) (m1 := _) C hX (iop_turn hst hI (nI 1) (nI 3)) (ev_turn 1 3 (by decide +kernel) (by decide) (by decide) (by decide +kernel) (by decide) rfl) hI.hd (gl_up inv_X8_turn) rfl ⟨rfl, hdA_X8_turn⟩ (by decide) rfl hl.1 rfl (by decide) dL_gaskets_481 ⟨Nat.le_of_ble_eq_true rfl, Nat.le_of_ble_eq_true rfl⟩ ⟨Nat.le_of_ble_eq_true rfl, Nat.le_of_ble_eq_true rfl⟩ rfl rfl (fun f H locs hX hI => ?_)
  have hI : Inv G h f hS_gaskets_10 := hI.cg (hL [(-1), 2, 2, 3, 0, 1, 1, 0, 0, 0, 0, 0, 0, 0, 0, 0, 0, 0, 0, 0, 0, 0, 0, 0, 0, 0, 0, 0, 0, 0, 0, 0]) (hL [(-1), 2, 2, 3, 0, 0, 1, 1, 0, 0, 0, 0, 0, 0, 0, 0, 0, 0, 0, 0, 0, 0, 0, 0, 0, 0, 0, 0, 0, 0, 0, 0]) (hL [1, 0, 0, 1]) (hE [0, 0, 0, 0, 0, 0, 0, 0, 0, 0]) (hE [0, 0, 0, 0, 0, 0, 0, 0, 0, 0]) ⟨by decide +kernel, by decide +kernel, by decide +kernel⟩
  refine lv_lconst (v := 0) C.x C.b dL_gaskets_484 (by decide) ?_
  refine k_lcmp_ne (tgt := 619) C.x C.b dL_gaskets_485 dL_gaskets_486 (by decide) (fun q9 => absurd (by decide) q9) (fun _ => ?_)
  refine lv_aload_n C.x C.b dL_gaskets_489 rfl (lv_at hl 0 rfl) ?_
  refine lv_iconst (v := (nI 1)) C.x C.b dL_gaskets_490 (by decide) ?_
  refine lv_iconst (v := (nI 1)) C.x C.b dL_gaskets_491 (by decide) ?_
  refine k_cJ (As := [.int (nI 1), .int (nI 1)]) (rest := []) (c2 := 1256) (s2 := 10456) (v := 1) (m1 := _) C hX (iop_turn hst hI (nI 1) (nI 1)) (ev_turn 1 1 (by decide +kernel) (by decide) (by decide) (by decide +kernel) (by decide) rfl) hI.hd (gl_up inv_X8_turn) rfl ⟨rfl, hdA_X8_turn⟩ (by decide) rfl hl.1 rfl (by decide) dL_gaskets_492 ⟨Nat.le_of_ble_eq_true rfl, Nat.le_of_ble_eq_true rfl⟩ ⟨Nat.le_of_ble_eq_true rfl, Nat.le_of_ble_eq_true rfl⟩ rfl rfl (fun f H locs hX hI => ?_)
  have hI : Inv G h f hS_gaskets_11 := hI.cg (hL [(-1), 2, 2, 3, 0, 1, 1, 0, 0, 0, 0, 0, 0, 0, 0, 0, 0, 0, 0, 0, 0, 0, 0, 0, 0, 0, 0, 0, 0, 0, 0, 0]) (hL [(-1), 2, 2, 3, 0, 0, 1, 1, 0, 0, 0, 0, 0, 0, 0, 0, 0, 0, 0, 0, 0, 0, 0, 0, 0, 0, 0, 0, 0, 0, 0, 0]) (hL [1, 0, 0, 1]) (hE [0, 0, 0, 0, 0, 0, 0, 0, 0, 0]) (hE [0, 0, 0, 0, 0, 0, 0, 0, 0, 0]) ⟨by decide +kernel, by decide +kernel, by decide +kernel⟩
  refine lv_lconst (v := 1) C.x C.b dL_gaskets_495 (by decide) ?_
  refine k_lcmp_ne (tgt := 619) C.x C.b dL_gaskets_496 dL_gaskets_497 (by decide) (fun q9 => absurd (by decide) q9) (fun _ => ?_)
  refine lv_aload_n C.x C.b dL_gaskets_500 rfl (lv_at hl 0 rfl) ?_
  refine lv_iconst (v := (nI 1)) C.x C.b dL_gaskets_501 (by decide) ?_
  refine lv_iconst (v := (nI 0)) C.x C.b dL_gaskets_502 (by decide) ?_
  refine k_cJ (As := [.int (nI 1), .int (nI 0)]) (rest := []) (c2 := 1264) (s2 := 10520) (v := 4) (m1 := _) C hX (iop_turn hst hI (nI 1) (nI 0)) (ev_turn 1 0 (by decide +kernel) (by decide) (by decide) (by decide +kernel) (by decide) rfl) hI.hd (gl_up inv_X8_turn) rfl ⟨rfl, hdA_X8_turn⟩ (by decide) rfl hl.1 rfl (by decide) dL_gaskets_503 ⟨Nat.le_of_ble_eq_true rfl, Nat.le_of_ble_eq_true rfl⟩ ⟨Nat.le_of_ble_eq_true rfl, Nat.le_of_ble_eq_true rfl⟩ rfl rfl (fun f H locs hX hI => ?_)
  have hI : Inv G h f hS_gaskets_12 := hI.cg (hL [(-1), 2, 2, 3, 4, 1, 1, 0, 0, 0, 0, 0, 0, 0, 0, 0, 0, 0, 0, 0, 0, 0, 0, 0, 0, 0, 0, 0, 0, 0, 0, 0]) (hL [(-1), 2, 2, 3, 0, 0, 1, 1, 0, 0, 0, 0, 0, 0, 0, 0, 0, 0, 0, 0, 0, 0, 0, 0, 0, 0, 0, 0, 0, 0, 0, 0]) (hL [1, 0, 0, 1]) (hE [0, 0, 0, 0, 0, 0, 0, 0, 0, 0]) (hE [0, 0, 0, 0, 0, 0, 0, 0, 0, 0]) ⟨by decide +kernel, by decide +kernel, by decide +kernel⟩
  refine lv_ldc2 (v := 4) C.x C.b C.ow (C.ts _ (List.mem_cons_of_mem _ lkC_663)) dL_gaskets_506 ?_
  refine k_lcmp_ne (tgt := 619) C.x C.b dL_gaskets_509 dL_gaskets_510 (by decide) (fun q9 => absurd (by decide) q9) (fun _ => ?_)
  refine lv_aload_n C.x C.b dL_gaskets_513 rfl (lv_at hl 0 rfl) ?_
  refine lv_iconst (v := (nI 3)) C.x C.b dL_gaskets_514 (by decide) ?_
  refine lv_bipush (v := (nI 6)) C.x C.b dL_gaskets_515 (by decide) ?_
  refine lv_bipush (v := (nI 7)) C.x C.b dL_gaskets_517 (by decide) ?_
  refine lv_bipush (v := (-2)) C.x C.b dL_gaskets_519 (by decide) ?_
  refine k_cI (As := [.int (nI 3), .int (nI 6), .int (nI 7), .int (-2)]) (rest := []) (c2 := 1272) (s2 := 10584) (v := (nI 2)) (m1 := _) C hX (iop_gasket hst hI (nI 3) (nI 6) (nI 7) (-2)) (ev_gasket 2 (by decide +kernel) (by decide) rfl rfl) hI.hd (gl_up inv_X8_gasket) rfl ⟨rfl, hdA_X8_gasket⟩ (by decide) rfl hl.1 rfl (by decide) dL_gaskets_521 ⟨Nat.le_of_ble_eq_true rfl, Nat.le_of_ble_eq_true rfl⟩ ⟨Nat.le_of_ble_eq_true rfl, Nat.le_of_ble_eq_true rfl⟩ rfl rfl (fun f H locs hX hI => ?_)
  have hI : Inv G h f hS_gaskets_13 := hI.cg (hL [(-1), 2, 2, 3, 4, 1, 1, 0, 3, 6, 7, (-2), 0, 0, 0, 0, 0, 0, 0, 0, 0, 0, 0, 0, 0, 0, 0, 0, 0, 0, 0, 0]) (hL [(-1), 2, 2, 3, 0, 0, 1, 1, (-2), 3, 6, 7, 0, 0, 0, 0, 0, 0, 0, 0, 0, 0, 0, 0, 0, 0, 0, 0, 0, 0, 0, 0]) (hL [1, 0, 0, 1]) (hE [0, 0, 0, 0, 0, 0, 0, 0, 0, 0]) (hE [0, 0, 0, 0, 0, 0, 0, 0, 0, 0]) ⟨by decide +kernel, by decide +kernel, by decide +kernel⟩
  refine lv_iconst (v := (nI 2)) C.x C.b dL_gaskets_524 (by decide) ?_
  refine lv_icmp_ne (tgt := 619) C.x C.b dL_gaskets_525 (by decide) (fun q9 => absurd (by decide) q9) (fun _ => ?_)
  refine lv_aload_n C.x C.b dL_gaskets_528 rfl (lv_at hl 0 rfl) ?_
  refine lv_iconst (v := (nI 2)) C.x C.b dL_gaskets_529 (by decide) ?_
  refine lv_ldc2 (v := (-2)) C.x C.b C.ow (C.ts _ (List.mem_cons_of_mem _ lkC_664)) dL_gaskets_530 ?_
  refine lv_ldc2 (v := 3) C.x C.b C.ow (C.ts _ (List.mem_cons_of_mem _ lkC_655)) dL_gaskets_533 ?_
  refine lv_ldc2 (v := 6) C.x C.b C.ow (C.ts _ (List.mem_cons_of_mem _ lkC_665)) dL_gaskets_536 ?_
  refine lv_ldc2 (v := 7) C.x C.b C.ow (C.ts _ (List.mem_cons_of_mem _ lkC_666)) dL_gaskets_539 ?_
  refine k_law (As := [.ref h, .int (nI 2), .long (-2), .long 3, .long 6, .long 7]) (rest := []) (c2 := 1352) (s2 := 11224) (m1 := hS_gaskets_13) C hX (pL_roots hst hI (nI 2) (-2) 3 6 7 (ev_root (by decide +kernel) (by decide +kernel)) (ev_root (by decide +kernel) (by decide +kernel)) (ev_root (by decide +kernel) (by decide +kernel)) (ev_root (by decide +kernel) (by decide +kernel))) (gl_up inv_L_roots) rfl rfl rfl hdP_L_roots ⟨Nat.le_of_ble_eq_true rfl, Nat.le_of_ble_eq_true rfl⟩ rfl hl.1 rfl (by decide) dL_gaskets_542 ⟨Nat.le_of_ble_eq_true rfl, Nat.le_of_ble_eq_true rfl⟩ rfl rfl (fun f H locs hX hI => ?_)
  refine lv_if_eq (tgt := 619) C.x C.b dL_gaskets_545 (by decide) (fun q9 => absurd q9 (by decide)) (fun _ => ?_)
  refine lv_aload_n C.x C.b dL_gaskets_548 rfl (lv_at hl 0 rfl) ?_
  refine lv_iconst (v := (nI 2)) C.x C.b dL_gaskets_549 (by decide) ?_
  refine lv_bipush (v := (nI 7)) C.x C.b dL_gaskets_550 (by decide) ?_
  refine lv_iconst (v := (nI 5)) C.x C.b dL_gaskets_552 (by decide) ?_
  refine k_law (As := [.ref h, .int (nI 2), .int (nI 7), .int (nI 5)]) (rest := []) (c2 := 1432) (s2 := 11864) (m1 := hS_gaskets_13) C hX (pL_count hst hI (nI 2) (nI 7) (nI 5) (ev_count (by decide +kernel) (by decide +kernel) (by decide +kernel) (by decide +kernel)) (ev_countAnew (by decide +kernel) (by decide +kernel) (by decide +kernel) (by decide +kernel))) (gl_up inv_L_count) rfl rfl rfl hdP_L_count ⟨Nat.le_of_ble_eq_true rfl, Nat.le_of_ble_eq_true rfl⟩ rfl hl.1 rfl (by decide) dL_gaskets_553 ⟨Nat.le_of_ble_eq_true rfl, Nat.le_of_ble_eq_true rfl⟩ rfl rfl (fun f H locs hX hI => ?_)
  refine lv_if_eq (tgt := 619) C.x C.b dL_gaskets_556 (by decide) (fun q9 => absurd q9 (by decide)) (fun _ => ?_)
  refine lv_aload_n C.x C.b dL_gaskets_559 rfl (lv_at hl 0 rfl) ?_
  refine lv_iconst (v := (nI 2)) C.x C.b dL_gaskets_560 (by decide) ?_
  refine lv_iconst (v := (nI 2)) C.x C.b dL_gaskets_561 (by decide) ?_
  refine k_cI (As := [.int (nI 2), .int (nI 2)]) (rest := []) (c2 := 1440) (s2 := 11928) (v := (nI 3)) (m1 := hS_gaskets_13) C hX (iop_remainders hst hI (nI 2) (nI 2)) (ev_remainders (by decide +kernel) (by decide +kernel) (by decide +kernel)) hI.hd (gl_up inv_X8_remainders) rfl ⟨rfl, hdA_X8_remainders⟩ (by decide) rfl hl.1 rfl (by decide) dL_gaskets_562 ⟨Nat.le_of_ble_eq_true rfl, Nat.le_of_ble_eq_true rfl⟩ ⟨Nat.le_of_ble_eq_true rfl, Nat.le_of_ble_eq_true rfl⟩ rfl rfl (fun f H locs hX hI => ?_)
  refine lv_iconst (v := (nI 3)) C.x C.b dL_gaskets_565 (by decide) ?_
  refine lv_icmp_ne (tgt := 619) C.x C.b dL_gaskets_566 (by decide) (fun q9 => absurd (by decide) q9) (fun _ => ?_)
  refine lv_aload_n C.x C.b dL_gaskets_569 rfl (lv_at hl 0 rfl) ?_
  refine lv_bipush (v := (-6)) C.x C.b dL_gaskets_570 (by decide) ?_
  refine lv_bipush (v := (nI 11)) C.x C.b dL_gaskets_572 (by decide) ?_
  refine lv_bipush (v := (nI 14)) C.x C.b dL_gaskets_574 (by decide) ?_
  refine lv_bipush (v := (nI 15)) C.x C.b dL_gaskets_576 (by decide) ?_
  refine k_cI (As := [.int (-6), .int (nI 11), .int (nI 14), .int (nI 15)]) (rest := []) (c2 := 1448) (s2 := 11992) (v := (nI 3)) (m1 := _) C hX (iop_gasket hst hI (-6) (nI 11) (nI 14) (nI 15)) (ev_gasket 3 (by decide +kernel) (by decide) rfl rfl) hI.hd (gl_up inv_X8_gasket) rfl ⟨rfl, hdA_X8_gasket⟩ (by decide) rfl hl.1 rfl (by decide) dL_gaskets_578 ⟨Nat.le_of_ble_eq_true rfl, Nat.le_of_ble_eq_true rfl⟩ ⟨Nat.le_of_ble_eq_true rfl, Nat.le_of_ble_eq_true rfl⟩ rfl rfl (fun f H locs hX hI => ?_)
  have hI : Inv G h f hS_gaskets_14 := hI.cg (hL [(-1), 2, 2, 3, 4, 1, 1, 0, 3, 6, 7, (-2), (-6), 11, 14, 15, 0, 0, 0, 0, 0, 0, 0, 0, 0, 0, 0, 0, 0, 0, 0, 0]) (hL [(-1), 2, 2, 3, 0, 0, 1, 1, (-2), 3, 6, 7, (-6), 11, 14, 15, 0, 0, 0, 0, 0, 0, 0, 0, 0, 0, 0, 0, 0, 0, 0, 0]) (hL [1, 0, 0, 1]) (hE [0, 0, 0, 0, 0, 0, 0, 0, 0, 0]) (hE [0, 0, 0, 0, 0, 0, 0, 0, 0, 0]) ⟨by decide +kernel, by decide +kernel, by decide +kernel⟩
  refine lv_iconst (v := (nI 3)) C.x C.b dL_gaskets_581 (by decide) ?_
  refine lv_icmp_ne (tgt := 619) C.x C.b dL_gaskets_582 (by decide) (fun q9 => absurd (by decide) q9) (fun _ => ?_)
  refine lv_aload_n C.x C.b dL_gaskets_585 rfl (lv_at hl 0 rfl) ?_
  refine lv_iconst (v := (nI 3)) C.x C.b dL_gaskets_586 (by decide) ?_
  refine lv_bipush (v := (nI 15)) C.x C.b dL_gaskets_587 (by decide) ?_
  refine lv_iconst (v := (nI 4)) C.x C.b dL_gaskets_589 (by decide) ?_
  refine k_law (As := [.ref h, .int (nI 3), .int (nI 15), .int (nI 4)]) (rest := []) (c2 := 1528) (s2 := 12632) (m1 := hS_gaskets_14) C hX (pL_count hst hI (nI 3) (nI 15) (nI 4) (ev_count (by decide +kernel) (by decide +kernel) (by decide +kernel) (by decide +kernel)) (ev_countAnew (by decide +kernel) (by decide +kernel) (by decide +kernel) (by decide +kernel))) (gl_up inv_L_count) rfl rfl rfl hdP_L_count ⟨Nat.le_of_ble_eq_true rfl, Nat.le_of_ble_eq_true rfl⟩ rfl hl.1 rfl (by decide) dL_gaskets_590 ⟨Nat.le_of_ble_eq_true rfl, Nat.le_of_ble_eq_true rfl⟩ rfl rfl (fun f H locs hX hI => ?_)
  refine lv_if_eq (tgt := 619) C.x C.b dL_gaskets_593 (by decide) (fun q9 => absurd q9 (by decide)) (fun _ => ?_)
  refine lv_aload_n C.x C.b dL_gaskets_596 rfl (lv_at hl 0 rfl) ?_
  refine lv_iconst (v := (nI 3)) C.x C.b dL_gaskets_597 (by decide) ?_
  refine lv_bipush (v := (nI 23)) C.x C.b dL_gaskets_598 (by decide) ?_
  refine lv_iconst (v := (nI 5)) C.x C.b dL_gaskets_600 (by decide) ?_
  refine k_law (As := [.ref h, .int (nI 3), .int (nI 23), .int (nI 5)]) (rest := []) (c2 := 1608) (s2 := 13272) (m1 := hS_gaskets_14) C hX (pL_count hst hI (nI 3) (nI 23) (nI 5) (ev_count (by decide +kernel) (by decide +kernel) (by decide +kernel) (by decide +kernel)) (ev_countAnew (by decide +kernel) (by decide +kernel) (by decide +kernel) (by decide +kernel))) (gl_up inv_L_count) rfl rfl rfl hdP_L_count ⟨Nat.le_of_ble_eq_true rfl, Nat.le_of_ble_eq_true rfl⟩ rfl hl.1 rfl (by decide) dL_gaskets_601 ⟨Nat.le_of_ble_eq_true rfl, Nat.le_of_ble_eq_true rfl⟩ rfl rfl (fun f H locs hX hI => ?_)
  refine lv_if_eq (tgt := 619) C.x C.b dL_gaskets_604 (by decide) (fun q9 => absurd q9 (by decide)) (fun _ => ?_)
  refine lv_aload_n C.x C.b dL_gaskets_607 rfl (lv_at hl 0 rfl) ?_
  refine lv_iconst (v := (nI 0)) C.x C.b dL_gaskets_608 (by decide) ?_
  refine lv_iconst (v := (nI 4)) C.x C.b dL_gaskets_609 (by decide) ?_
  refine lv_iconst (v := (nI 0)) C.x C.b dL_gaskets_610 (by decide) ?_
  refine lv_iconst (v := (nI 2)) C.x C.b dL_gaskets_611 (by decide) ?_
  refine lv_iconst (v := (nI 0)) C.x C.b dL_gaskets_612 (by decide) ?_
  refine k_law (As := [.ref h, .int (nI 0), .int (nI 4), .int (nI 0), .int (nI 2), .int (nI 0)]) (rest := []) (c2 := 4908) (s2 := 39672) (m1 := hS_gaskets_14) C hX (pL_refuses hst hI) (gl_up inv_L_refuses) rfl rfl rfl hdP_L_refuses ⟨Nat.le_of_ble_eq_true rfl, Nat.le_of_ble_eq_true rfl⟩ rfl hl.1 rfl (by decide) dL_gaskets_613 ⟨Nat.le_of_ble_eq_true rfl, Nat.le_of_ble_eq_true rfl⟩ rfl rfl (fun f H locs hX hI => ?_)
  refine lv_if_ne (tgt := 621) C.x C.b dL_gaskets_616 (by decide) (fun _ => ?_) (fun q9 => absurd q9 (by decide))
  refine lv_lconst (v := 0) C.x C.b dL_gaskets_621 (by decide) ?_
  refine lv_lstore_n (lv' := [(1, .long 0), (0, .ref h)]) C.x C.b dL_gaskets_622 rfl hl (by decide) rfl (fun ls hl => ?_)
  refine lv_iconst (v := (nI 0)) C.x C.b dL_gaskets_623 (by decide) ?_
  refine lv_istore_n (lv' := [(3, .int (nI 0)), (1, .long 0), (0, .ref h)]) C.x C.b dL_gaskets_624 rfl hl (by decide) rfl (fun ls hl => ?_)
  refine lv_iload_n C.x C.b dL_gaskets_625 rfl (lv_at hl 0 rfl) ?_
  refine lv_sipush (v := (nI 200)) C.x C.b dL_gaskets_626 (by decide) ?_
  refine lv_icmp_ge (tgt := 657) C.x C.b dL_gaskets_629 (by decide) (fun q9 => absurd q9 (by decide)) (fun _ => ?_)
  refine lv_aload_n C.x C.b dL_gaskets_632 rfl (lv_at hl 2 rfl) ?_
  refine lv_bipush (v := (nI 10)) C.x C.b dL_gaskets_633 (by decide) ?_
  refine lv_iconst (v := (nI 0)) C.x C.b dL_gaskets_635 (by decide) ?_
  refine lv_iload_n C.x C.b dL_gaskets_636 rfl (lv_at hl 0 rfl) ?_
  refine lv_iconst (v := (nI 4)) C.x C.b dL_gaskets_637 (by decide) ?_
  refine lv_irem C.x C.b dL_gaskets_638 (by decide) ?_
  refine k_topi (y := (nI 0)) (by decide) ?_
  refine lv_iconst (v := (nI 0)) C.x C.b dL_gaskets_639 (by decide) ?_
  refine lv_iconst (v := (nI 0)) C.x C.b dL_gaskets_640 (by decide) ?_
  refine k_actJ (As := [.ref h, .int (nI 10), .int (nI 0), .int (nI 0), .int (nI 0), .int (nI 0)]) (rest := []) (c2 := 4916) (s2 := 39736) (v := 15) (m1 := _) C hX (act_10 hI.hd (nI 0) (nI 0) (nI 0) (nI 0) (iop_turn hst hI (nI 0) (nI 0))) (ev_turn 0 0 (by decide +kernel) (by decide) (by decide) (by decide +kernel) (by decide) rfl) (rfl) (gl_up inv_L_act) rfl hl.1 rfl (by decide) dL_gaskets_641 ⟨Nat.le_of_ble_eq_true rfl, Nat.le_of_ble_eq_true rfl⟩ ⟨Nat.le_of_ble_eq_true rfl, Nat.le_of_ble_eq_true rfl⟩ rfl rfl (fun f H locs hX hI => ?_)
  have hI : Inv G h f hS_gaskets_15 := hI.cg (hL [15, 2, 2, 3, 4, 1, 1, 0, 3, 6, 7, (-2), (-6), 11, 14, 15, 0, 0, 0, 0, 0, 0, 0, 0, 0, 0, 0, 0, 0, 0, 0, 0]) (hL [(-1), 2, 2, 3, 0, 0, 1, 1, (-2), 3, 6, 7, (-6), 11, 14, 15, 0, 0, 0, 0, 0, 0, 0, 0, 0, 0, 0, 0, 0, 0, 0, 0]) (hL [1, 0, 0, 1]) (hE [0, 0, 0, 0, 0, 0, 0, 0, 0, 0]) (hE [0, 0, 0, 0, 0, 0, 0, 0, 0, 0]) ⟨by decide +kernel, by decide +kernel, by decide +kernel⟩
  refine lv_ldc2 (v := (-7000003)) C.x C.b C.ow (C.ts _ (List.mem_cons_of_mem _ lkC_4)) dL_gaskets_644 ?_
  refine k_lcmp_eq (tgt := 657) C.x C.b dL_gaskets_647 dL_gaskets_648 (by decide) (fun q9 => absurd q9 (by decide)) (fun _ => ?_)
  refine lv_iinc (v := (nI 1)) (lv' := [(3, .int (nI 1)), (1, .long 0), (0, .ref h)]) C.x C.b dL_gaskets_651 hl (k := 0) rfl (by decide) (by decide) rfl (fun ls hl => ?_)
  refine lv_goto (tgt := 625) C.x C.b dL_gaskets_654 (by decide) ?_
  refine lv_iload_n C.x C.b dL_gaskets_625 rfl (lv_at hl 0 rfl) ?_
  refine lv_sipush (v := (nI 200)) C.x C.b dL_gaskets_626 (by decide) ?_
  refine lv_icmp_ge (tgt := 657) C.x C.b dL_gaskets_629 (by decide) (fun q9 => absurd q9 (by decide)) (fun _ => ?_)
  refine lv_aload_n C.x C.b dL_gaskets_632 rfl (lv_at hl 2 rfl) ?_
  refine lv_bipush (v := (nI 10)) C.x C.b dL_gaskets_633 (by decide) ?_
  refine lv_iconst (v := (nI 0)) C.x C.b dL_gaskets_635 (by decide) ?_
  refine lv_iload_n C.x C.b dL_gaskets_636 rfl (lv_at hl 0 rfl) ?_
  refine lv_iconst (v := (nI 4)) C.x C.b dL_gaskets_637 (by decide) ?_
  refine lv_irem C.x C.b dL_gaskets_638 (by decide) ?_
  refine k_topi (y := (nI 1)) (by decide) ?_
  refine lv_iconst (v := (nI 0)) C.x C.b dL_gaskets_639 (by decide) ?_
  refine lv_iconst (v := (nI 0)) C.x C.b dL_gaskets_640 (by decide) ?_
  refine k_actJ (As := [.ref h, .int (nI 10), .int (nI 0), .int (nI 1), .int (nI 0), .int (nI 0)]) (rest := []) (c2 := 4924) (s2 := 39800) (v := 38) (m1 := _) C hX (act_10 hI.hd (nI 0) (nI 1) (nI 0) (nI 0) (iop_turn hst hI (nI 0) (nI 1))) (ev_turn 0 1 (by decide +kernel) (by decide) (by decide) (by decide +kernel) (by decide) rfl) (rfl) (gl_up inv_L_act) rfl hl.1 rfl (by decide) dL_gaskets_641 ⟨Nat.le_of_ble_eq_true rfl, Nat.le_of_ble_eq_true rfl⟩ ⟨Nat.le_of_ble_eq_true rfl, Nat.le_of_ble_eq_true rfl⟩ rfl rfl (fun f H locs hX hI => ?_)
  have hI : Inv G h f hS_gaskets_16 := hI.cg (hL [15, 38, 2, 3, 4, 1, 1, 0, 3, 6, 7, (-2), (-6), 11, 14, 15, 0, 0, 0, 0, 0, 0, 0, 0, 0, 0, 0, 0, 0, 0, 0, 0]) (hL [(-1), 2, 2, 3, 0, 0, 1, 1, (-2), 3, 6, 7, (-6), 11, 14, 15, 0, 0, 0, 0, 0, 0, 0, 0, 0, 0, 0, 0, 0, 0, 0, 0]) (hL [1, 0, 0, 1]) (hE [0, 0, 0, 0, 0, 0, 0, 0, 0, 0]) (hE [0, 0, 0, 0, 0, 0, 0, 0, 0, 0]) ⟨by decide +kernel, by decide +kernel, by decide +kernel⟩
  refine lv_ldc2 (v := (-7000003)) C.x C.b C.ow (C.ts _ (List.mem_cons_of_mem _ lkC_4)) dL_gaskets_644 ?_
  refine k_lcmp_eq (tgt := 657) C.x C.b dL_gaskets_647 dL_gaskets_648 (by decide) (fun q9 => absurd q9 (by decide)) (fun _ => ?_)
  refine lv_iinc (v := (nI 2)) (lv' := [(3, .int (nI 2)), (1, .long 0), (0, .ref h)]) C.x C.b dL_gaskets_651 hl (k := 0) rfl (by decide) (by decide) rfl (fun ls hl => ?_)
  refine lv_goto (tgt := 625) C.x C.b dL_gaskets_654 (by decide) ?_
  refine lv_iload_n C.x C.b dL_gaskets_625 rfl (lv_at hl 0 rfl) ?_
  refine lv_sipush (v := (nI 200)) C.x C.b dL_gaskets_626 (by decide) ?_
  refine lv_icmp_ge (tgt := 657) C.x C.b dL_gaskets_629 (by decide) (fun q9 => absurd q9 (by decide)) (fun _ => ?_)
  refine lv_aload_n C.x C.b dL_gaskets_632 rfl (lv_at hl 2 rfl) ?_
  refine lv_bipush (v := (nI 10)) C.x C.b dL_gaskets_633 (by decide) ?_
  refine lv_iconst (v := (nI 0)) C.x C.b dL_gaskets_635 (by decide) ?_
  refine lv_iload_n C.x C.b dL_gaskets_636 rfl (lv_at hl 0 rfl) ?_
  refine lv_iconst (v := (nI 4)) C.x C.b dL_gaskets_637 (by decide) ?_
  refine lv_irem C.x C.b dL_gaskets_638 (by decide) ?_
  refine k_topi (y := (nI 2)) (by decide) ?_
  refine lv_iconst (v := (nI 0)) C.x C.b dL_gaskets_639 (by decide) ?_
  refine lv_iconst (v := (nI 0)) C.x C.b dL_gaskets_640 (by decide) ?_
  refine k_actJ (As := [.ref h, .int (nI 10), .int (nI 0), .int (nI 2), .int (nI 0), .int (nI 0)]) (rest := []) (c2 := 4932) (s2 := 39864) (v := 110) (m1 := _) C hX (act_10 hI.hd (nI 0) (nI 2) (nI 0) (nI 0) (iop_turn hst hI (nI 0) (nI 2))) (ev_turn 0 2 (by decide +kernel) (by decide) (by decide) (by decide +kernel) (by decide) rfl) (rfl) (gl_up inv_L_act) rfl hl.1 rfl (by decide) dL_gaskets_641 ⟨Nat.le_of_ble_eq_true rfl, Nat.le_of_ble_eq_true rfl⟩ ⟨Nat.le_of_ble_eq_true rfl, Nat.le_of_ble_eq_true rfl⟩ rfl rfl (fun f H locs hX hI => ?_)
  have hI : Inv G h f hS_gaskets_17 := hI.cg (hL [15, 38, 110, 3, 4, 1, 1, 0, 3, 6, 7, (-2), (-6), 11, 14, 15, 0, 0, 0, 0, 0, 0, 0, 0, 0, 0, 0, 0, 0, 0, 0, 0]) (hL [(-1), 2, 2, 3, 0, 0, 1, 1, (-2), 3, 6, 7, (-6), 11, 14, 15, 0, 0, 0, 0, 0, 0, 0, 0, 0, 0, 0, 0, 0, 0, 0, 0]) (hL [1, 0, 0, 1]) (hE [0, 0, 0, 0, 0, 0, 0, 0, 0, 0]) (hE [0, 0, 0, 0, 0, 0, 0, 0, 0, 0]) ⟨by decide +kernel, by decide +kernel, by decide +kernel⟩
  refine lv_ldc2 (v := (-7000003)) C.x C.b C.ow (C.ts _ (List.mem_cons_of_mem _ lkC_4)) dL_gaskets_644 ?_
  refine k_lcmp_eq (tgt := 657) C.x C.b dL_gaskets_647 dL_gaskets_648 (by decide) (fun q9 => absurd q9 (by decide)) (fun _ => ?_)
  refine lv_iinc (v := (nI 3)) (lv' := [(3, .int (nI 3)), (1, .long 0), (0, .ref h)]) C.x C.b dL_gaskets_651 hl (k := 0) rfl (by decide) (by decide) rfl (fun ls hl => ?_)
  refine lv_goto (tgt := 625) C.x C.b dL_gaskets_654 (by decide) ?_
  refine lv_iload_n C.x C.b dL_gaskets_625 rfl (lv_at hl 0 rfl) ?_
  refine lv_sipush (v := (nI 200)) C.x C.b dL_gaskets_626 (by decide) ?_
  refine lv_icmp_ge (tgt := 657) C.x C.b dL_gaskets_629 (by decide) (fun q9 => absurd q9 (by decide)) (fun _ => ?_)
  refine lv_aload_n C.x C.b dL_gaskets_632 rfl (lv_at hl 2 rfl) ?_
  refine lv_bipush (v := (nI 10)) C.x C.b dL_gaskets_633 (by decide) ?_
  refine lv_iconst (v := (nI 0)) C.x C.b dL_gaskets_635 (by decide) ?_
  refine lv_iload_n C.x C.b dL_gaskets_636 rfl (lv_at hl 0 rfl) ?_
  refine lv_iconst (v := (nI 4)) C.x C.b dL_gaskets_637 (by decide) ?_
  refine lv_irem C.x C.b dL_gaskets_638 (by decide) ?_
  refine k_topi (y := (nI 3)) (by decide) ?_
  refine lv_iconst (v := (nI 0)) C.x C.b dL_gaskets_639 (by decide) ?_
  refine lv_iconst (v := (nI 0)) C.x C.b dL_gaskets_640 (by decide) ?_
  refine k_actJ (As := [.ref h, .int (nI 10), .int (nI 0), .int (nI 3), .int (nI 0), .int (nI 0)]) (rest := []) (c2 := 4940) (s2 := 39928) (v := 323) (m1 := _) C hX (act_10 hI.hd (nI 0) (nI 3) (nI 0) (nI 0) (iop_turn hst hI (nI 0) (nI 3))) (ev_turn 0 3 (by decide +kernel) (by decide) (by decide) (by decide +kernel) (by decide) rfl) (rfl) (gl_up inv_L_act) rfl hl.1 rfl (by decide) dL_gaskets_641 ⟨Nat.le_of_ble_eq_true rfl, Nat.le_of_ble_eq_true rfl⟩ ⟨Nat.le_of_ble_eq_true rfl, Nat.le_of_ble_eq_true rfl⟩ rfl rfl (fun f H locs hX hI => ?_)
  have hI : Inv G h f hS_gaskets_18 := hI.cg (hL [15, 38, 110, 323, 4, 1, 1, 0, 3, 6, 7, (-2), (-6), 11, 14, 15, 0, 0, 0, 0, 0, 0, 0, 0, 0, 0, 0, 0, 0, 0, 0, 0]) (hL [(-1), 2, 2, 3, 0, 0, 1, 1, (-2), 3, 6, 7, (-6), 11, 14, 15, 0, 0, 0, 0, 0, 0, 0, 0, 0, 0, 0, 0, 0, 0, 0, 0]) (hL [1, 0, 0, 1]) (hE [0, 0, 0, 0, 0, 0, 0, 0, 0, 0]) (hE [0, 0, 0, 0, 0, 0, 0, 0, 0, 0]) ⟨by decide +kernel, by decide +kernel, by decide +kernel⟩
  refine lv_ldc2 (v := (-7000003)) C.x C.b C.ow (C.ts _ (List.mem_cons_of_mem _ lkC_4)) dL_gaskets_644 ?_
  refine k_lcmp_eq (tgt := 657) C.x C.b dL_gaskets_647 dL_gaskets_648 (by decide) (fun q9 => absurd q9 (by decide)) (fun _ => ?_)
  refine lv_iinc (v := (nI 4)) (lv' := [(3, .int (nI 4)), (1, .long 0), (0, .ref h)]) C.x C.b dL_gaskets_651 hl (k := 0) rfl (by decide) (by decide) rfl (fun ls hl => ?_)
  refine lv_goto (tgt := 625) C.x C.b dL_gaskets_654 (by decide) ?_
  refine lv_iload_n C.x C.b dL_gaskets_625 rfl (lv_at hl 0 rfl) ?_
  refine lv_sipush (v := (nI 200)) C.x C.b dL_gaskets_626 (by decide) ?_
  refine lv_icmp_ge (tgt := 657) C.x C.b dL_gaskets_629 (by decide) (fun q9 => absurd q9 (by decide)) (fun _ => ?_)
  refine lv_aload_n C.x C.b dL_gaskets_632 rfl (lv_at hl 2 rfl) ?_
  refine lv_bipush (v := (nI 10)) C.x C.b dL_gaskets_633 (by decide) ?_
  refine lv_iconst (v := (nI 0)) C.x C.b dL_gaskets_635 (by decide) ?_
  refine lv_iload_n C.x C.b dL_gaskets_636 rfl (lv_at hl 0 rfl) ?_
  refine lv_iconst (v := (nI 4)) C.x C.b dL_gaskets_637 (by decide) ?_
  refine lv_irem C.x C.b dL_gaskets_638 (by decide) ?_
  refine k_topi (y := (nI 0)) (by decide) ?_
  refine lv_iconst (v := (nI 0)) C.x C.b dL_gaskets_639 (by decide) ?_
  refine lv_iconst (v := (nI 0)) C.x C.b dL_gaskets_640 (by decide) ?_
  refine k_actJ (As := [.ref h, .int (nI 10), .int (nI 0), .int (nI 0), .int (nI 0), .int (nI 0)]) (rest := []) (c2 := 4948) (s2 := 39992) (v := 927) (m1 := _) C hX (act_10 hI.hd (nI 0) (nI 0) (nI 0) (nI 0) (iop_turn hst hI (nI 0) (nI 0))) (ev_turn 0 0 (by decide +kernel) (by decide) (by decide) (by decide +kernel) (by decide) rfl) (rfl) (gl_up inv_L_act) rfl hl.1 rfl (by decide) dL_gaskets_641 ⟨Nat.le_of_ble_eq_true rfl, Nat.le_of_ble_eq_true rfl⟩ ⟨Nat.le_of_ble_eq_true rfl, Nat.le_of_ble_eq_true rfl⟩ rfl rfl (fun f H locs hX hI => ?_)
  have hI : Inv G h f hS_gaskets_19 := hI.cg (hL [927, 38, 110, 323, 4, 1, 1, 0, 3, 6, 7, (-2), (-6), 11, 14, 15, 0, 0, 0, 0, 0, 0, 0, 0, 0, 0, 0, 0, 0, 0, 0, 0]) (hL [(-1), 2, 2, 3, 0, 0, 1, 1, (-2), 3, 6, 7, (-6), 11, 14, 15, 0, 0, 0, 0, 0, 0, 0, 0, 0, 0, 0, 0, 0, 0, 0, 0]) (hL [1, 0, 0, 1]) (hE [0, 0, 0, 0, 0, 0, 0, 0, 0, 0]) (hE [0, 0, 0, 0, 0, 0, 0, 0, 0, 0]) ⟨by decide +kernel, by decide +kernel, by decide +kernel⟩
  refine lv_ldc2 (v := (-7000003)) C.x C.b C.ow (C.ts _ (List.mem_cons_of_mem _ lkC_4)) dL_gaskets_644 ?_
  refine k_lcmp_eq (tgt := 657) C.x C.b dL_gaskets_647 dL_gaskets_648 (by decide) (fun q9 => absurd q9 (by decide)) (fun _ => ?_)
  refine lv_iinc (v := (nI 5)) (lv' := [(3, .int (nI 5)), (1, .long 0), (0, .ref h)]) C.x C.b dL_gaskets_651 hl (k := 0) rfl (by decide) (by decide) rfl (fun ls hl => ?_)
  refine lv_goto (tgt := 625) C.x C.b dL_gaskets_654 (by decide) ?_
  refine lv_iload_n C.x C.b dL_gaskets_625 rfl (lv_at hl 0 rfl) ?_
  refine lv_sipush (v := (nI 200)) C.x C.b dL_gaskets_626 (by decide) ?_
  refine lv_icmp_ge (tgt := 657) C.x C.b dL_gaskets_629 (by decide) (fun q9 => absurd q9 (by decide)) (fun _ => ?_)
  refine lv_aload_n C.x C.b dL_gaskets_632 rfl (lv_at hl 2 rfl) ?_
  refine lv_bipush (v := (nI 10)) C.x C.b dL_gaskets_633 (by decide) ?_
  refine lv_iconst (v := (nI 0)) C.x C.b dL_gaskets_635 (by decide) ?_
  refine lv_iload_n C.x C.b dL_gaskets_636 rfl (lv_at hl 0 rfl) ?_
  refine lv_iconst (v := (nI 4)) C.x C.b dL_gaskets_637 (by decide) ?_
  refine lv_irem C.x C.b dL_gaskets_638 (by decide) ?_
  refine k_topi (y := (nI 1)) (by decide) ?_
  refine lv_iconst (v := (nI 0)) C.x C.b dL_gaskets_639 (by decide) ?_
  refine lv_iconst (v := (nI 0)) C.x C.b dL_gaskets_640 (by decide) ?_
  refine k_actJ (As := [.ref h, .int (nI 10), .int (nI 0), .int (nI 1), .int (nI 0), .int (nI 0)]) (rest := []) (c2 := 4956) (s2 := 40056) (v := 2682) (m1 := _) C hX (act_10 hI.hd (nI 0) (nI 1) (nI 0) (nI 0) (iop_turn hst hI (nI 0) (nI 1))) (ev_turn 0 1 (by decide +kernel) (by decide) (by decide) (by decide +kernel) (by decide) rfl) (rfl) (gl_up inv_L_act) rfl hl.1 rfl (by decide) dL_gaskets_641 ⟨Nat.le_of_ble_eq_true rfl, Nat.le_of_ble_eq_true rfl⟩ ⟨Nat.le_of_ble_eq_true rfl, Nat.le_of_ble_eq_true rfl⟩ rfl rfl (fun f H locs hX hI => ?_)
  have hI : Inv G h f hS_gaskets_20 := hI.cg (hL [927, 2682, 110, 323, 4, 1, 1, 0, 3, 6, 7, (-2), (-6), 11, 14, 15, 0, 0, 0, 0, 0, 0, 0, 0, 0, 0, 0, 0, 0, 0, 0, 0]) (hL [(-1), 2, 2, 3, 0, 0, 1, 1, (-2), 3, 6, 7, (-6), 11, 14, 15, 0, 0, 0, 0, 0, 0, 0, 0, 0, 0, 0, 0, 0, 0, 0, 0]) (hL [1, 0, 0, 1]) (hE [0, 0, 0, 0, 0, 0, 0, 0, 0, 0]) (hE [0, 0, 0, 0, 0, 0, 0, 0, 0, 0]) ⟨by decide +kernel, by decide +kernel, by decide +kernel⟩
  refine lv_ldc2 (v := (-7000003)) C.x C.b C.ow (C.ts _ (List.mem_cons_of_mem _ lkC_4)) dL_gaskets_644 ?_
  refine k_lcmp_eq (tgt := 657) C.x C.b dL_gaskets_647 dL_gaskets_648 (by decide) (fun q9 => absurd q9 (by decide)) (fun _ => ?_)
  refine lv_iinc (v := (nI 6)) (lv' := [(3, .int (nI 6)), (1, .long 0), (0, .ref h)]) C.x C.b dL_gaskets_651 hl (k := 0) rfl (by decide) (by decide) rfl (fun ls hl => ?_)
  refine lv_goto (tgt := 625) C.x C.b dL_gaskets_654 (by decide) ?_
  refine lv_iload_n C.x C.b dL_gaskets_625 rfl (lv_at hl 0 rfl) ?_
  refine lv_sipush (v := (nI 200)) C.x C.b dL_gaskets_626 (by decide) ?_
  refine lv_icmp_ge (tgt := 657) C.x C.b dL_gaskets_629 (by decide) (fun q9 => absurd q9 (by decide)) (fun _ => ?_)
  refine lv_aload_n C.x C.b dL_gaskets_632 rfl (lv_at hl 2 rfl) ?_
  refine lv_bipush (v := (nI 10)) C.x C.b dL_gaskets_633 (by decide) ?_
  refine lv_iconst (v := (nI 0)) C.x C.b dL_gaskets_635 (by decide) ?_
  refine lv_iload_n C.x C.b dL_gaskets_636 rfl (lv_at hl 0 rfl) ?_
  refine lv_iconst (v := (nI 4)) C.x C.b dL_gaskets_637 (by decide) ?_
  refine lv_irem C.x C.b dL_gaskets_638 (by decide) ?_
  refine k_topi (y := (nI 2)) (by decide) ?_
  refine lv_iconst (v := (nI 0)) C.x C.b dL_gaskets_639 (by decide) ?_
  refine lv_iconst (v := (nI 0)) C.x C.b dL_gaskets_640 (by decide) ?_
  refine k_actJ (As := [.ref h, .int (nI 10), .int (nI 0), .int (nI 2), .int (nI 0), .int (nI 0)]) (rest := []) (c2 := 4964) (s2 := 40120) (v := 7754) (m1 := _) C hX (act_10 hI.hd (nI 0) (nI 2) (nI 0) (nI 0) (iop_turn hst hI (nI 0) (nI 2))) (ev_turn 0 2 (by decide +kernel) (by decide) (by decide) (by decide +kernel) (by decide) rfl) (rfl) (gl_up inv_L_act) rfl hl.1 rfl (by decide) dL_gaskets_641 ⟨Nat.le_of_ble_eq_true rfl, Nat.le_of_ble_eq_true rfl⟩ ⟨Nat.le_of_ble_eq_true rfl, Nat.le_of_ble_eq_true rfl⟩ rfl rfl (fun f H locs hX hI => ?_)
  have hI : Inv G h f hS_gaskets_21 := hI.cg (hL [927, 2682, 7754, 323, 4, 1, 1, 0, 3, 6, 7, (-2), (-6), 11, 14, 15, 0, 0, 0, 0, 0, 0, 0, 0, 0, 0, 0, 0, 0, 0, 0, 0]) (hL [(-1), 2, 2, 3, 0, 0, 1, 1, (-2), 3, 6, 7, (-6), 11, 14, 15, 0, 0, 0, 0, 0, 0, 0, 0, 0, 0, 0, 0, 0, 0, 0, 0]) (hL [1, 0, 0, 1]) (hE [0, 0, 0, 0, 0, 0, 0, 0, 0, 0]) (hE [0, 0, 0, 0, 0, 0, 0, 0, 0, 0]) ⟨by decide +kernel, by decide +kernel, by decide +kernel⟩
  refine lv_ldc2 (v := (-7000003)) C.x C.b C.ow (C.ts _ (List.mem_cons_of_mem _ lkC_4)) dL_gaskets_644 ?_
  refine k_lcmp_eq (tgt := 657) C.x C.b dL_gaskets_647 dL_gaskets_648 (by decide) (fun q9 => absurd q9 (by decide)) (fun _ => ?_)
  refine lv_iinc (v := (nI 7)) (lv' := [(3, .int (nI 7)), (1, .long 0), (0, .ref h)]) C.x C.b dL_gaskets_651 hl (k := 0) rfl (by decide) (by decide) rfl (fun ls hl => ?_)
  refine lv_goto (tgt := 625) C.x C.b dL_gaskets_654 (by decide) ?_
  refine lv_iload_n C.x C.b dL_gaskets_625 rfl (lv_at hl 0 rfl) ?_
  refine lv_sipush (v := (nI 200)) C.x C.b dL_gaskets_626 (by decide) ?_
  refine lv_icmp_ge (tgt := 657) C.x C.b dL_gaskets_629 (by decide) (fun q9 => absurd q9 (by decide)) (fun _ => ?_)
  refine lv_aload_n C.x C.b dL_gaskets_632 rfl (lv_at hl 2 rfl) ?_
  refine lv_bipush (v := (nI 10)) C.x C.b dL_gaskets_633 (by decide) ?_
  refine lv_iconst (v := (nI 0)) C.x C.b dL_gaskets_635 (by decide) ?_
  refine lv_iload_n C.x C.b dL_gaskets_636 rfl (lv_at hl 0 rfl) ?_
  refine lv_iconst (v := (nI 4)) C.x C.b dL_gaskets_637 (by decide) ?_
  refine lv_irem C.x C.b dL_gaskets_638 (by decide) ?_
  refine k_topi (y := (nI 3)) (by decide) ?_
  refine lv_iconst (v := (nI 0)) C.x C.b dL_gaskets_639 (by decide) ?_
  refine lv_iconst (v := (nI 0)) C.x C.b dL_gaskets_640 (by decide) ?_
  refine k_actJ (As := [.ref h, .int (nI 10), .int (nI 0), .int (nI 3), .int (nI 0), .int (nI 0)]) (rest := []) (c2 := 4972) (s2 := 40184) (v := 22403) (m1 := _) C hX (act_10 hI.hd (nI 0) (nI 3) (nI 0) (nI 0) (iop_turn hst hI (nI 0) (nI 3))) (ev_turn 0 3 (by decide +kernel) (by decide) (by decide) (by decide +kernel) (by decide) rfl) (rfl) (gl_up inv_L_act) rfl hl.1 rfl (by decide) dL_gaskets_641 ⟨Nat.le_of_ble_eq_true rfl, Nat.le_of_ble_eq_true rfl⟩ ⟨Nat.le_of_ble_eq_true rfl, Nat.le_of_ble_eq_true rfl⟩ rfl rfl (fun f H locs hX hI => ?_)
  have hI : Inv G h f hS_gaskets_22 := hI.cg (hL [927, 2682, 7754, 22403, 4, 1, 1, 0, 3, 6, 7, (-2), (-6), 11, 14, 15, 0, 0, 0, 0, 0, 0, 0, 0, 0, 0, 0, 0, 0, 0, 0, 0]) (hL [(-1), 2, 2, 3, 0, 0, 1, 1, (-2), 3, 6, 7, (-6), 11, 14, 15, 0, 0, 0, 0, 0, 0, 0, 0, 0, 0, 0, 0, 0, 0, 0, 0]) (hL [1, 0, 0, 1]) (hE [0, 0, 0, 0, 0, 0, 0, 0, 0, 0]) (hE [0, 0, 0, 0, 0, 0, 0, 0, 0, 0]) ⟨by decide +kernel, by decide +kernel, by decide +kernel⟩
  refine lv_ldc2 (v := (-7000003)) C.x C.b C.ow (C.ts _ (List.mem_cons_of_mem _ lkC_4)) dL_gaskets_644 ?_
  refine k_lcmp_eq (tgt := 657) C.x C.b dL_gaskets_647 dL_gaskets_648 (by decide) (fun q9 => absurd q9 (by decide)) (fun _ => ?_)
  refine lv_iinc (v := (nI 8)) (lv' := [(3, .int (nI 8)), (1, .long 0), (0, .ref h)]) C.x C.b dL_gaskets_651 hl (k := 0) rfl (by decide) (by decide) rfl (fun ls hl => ?_)
  refine lv_goto (tgt := 625) C.x C.b dL_gaskets_654 (by decide) ?_
  refine lv_iload_n C.x C.b dL_gaskets_625 rfl (lv_at hl 0 rfl) ?_
  refine lv_sipush (v := (nI 200)) C.x C.b dL_gaskets_626 (by decide) ?_
  refine lv_icmp_ge (tgt := 657) C.x C.b dL_gaskets_629 (by decide) (fun q9 => absurd q9 (by decide)) (fun _ => ?_)
  refine lv_aload_n C.x C.b dL_gaskets_632 rfl (lv_at hl 2 rfl) ?_
  refine lv_bipush (v := (nI 10)) C.x C.b dL_gaskets_633 (by decide) ?_
  refine lv_iconst (v := (nI 0)) C.x C.b dL_gaskets_635 (by decide) ?_
  refine lv_iload_n C.x C.b dL_gaskets_636 rfl (lv_at hl 0 rfl) ?_
  refine lv_iconst (v := (nI 4)) C.x C.b dL_gaskets_637 (by decide) ?_
  refine lv_irem C.x C.b dL_gaskets_638 (by decide) ?_
  refine k_topi (y := (nI 0)) (by decide) ?_
  refine lv_iconst (v := (nI 0)) C.x C.b dL_gaskets_639 (by decide) ?_
  refine lv_iconst (v := (nI 0)) C.x C.b dL_gaskets_640 (by decide) ?_
  refine k_actJ (As := [.ref h, .int (nI 10), .int (nI 0), .int (nI 0), .int (nI 0), .int (nI 0)]) (rest := []) (c2 := 4980) (s2 := 40248) (v := 64751) (m1 := _) C hX (act_10 hI.hd (nI 0) (nI 0) (nI 0) (nI 0) (iop_turn hst hI (nI 0) (nI 0))) (ev_turn 0 0 (by decide +kernel) (by decide) (by decide) (by decide +kernel) (by decide) rfl) (rfl) (gl_up inv_L_act) rfl hl.1 rfl (by decide) dL_gaskets_641 ⟨Nat.le_of_ble_eq_true rfl, Nat.le_of_ble_eq_true rfl⟩ ⟨Nat.le_of_ble_eq_true rfl, Nat.le_of_ble_eq_true rfl⟩ rfl rfl (fun f H locs hX hI => ?_)
  have hI : Inv G h f hS_gaskets_23 := hI.cg (hL [64751, 2682, 7754, 22403, 4, 1, 1, 0, 3, 6, 7, (-2), (-6), 11, 14, 15, 0, 0, 0, 0, 0, 0, 0, 0, 0, 0, 0, 0, 0, 0, 0, 0]) (hL [(-1), 2, 2, 3, 0, 0, 1, 1, (-2), 3, 6, 7, (-6), 11, 14, 15, 0, 0, 0, 0, 0, 0, 0, 0, 0, 0, 0, 0, 0, 0, 0, 0]) (hL [1, 0, 0, 1]) (hE [0, 0, 0, 0, 0, 0, 0, 0, 0, 0]) (hE [0, 0, 0, 0, 0, 0, 0, 0, 0, 0]) ⟨by decide +kernel, by decide +kernel, by decide +kernel⟩
  refine lv_ldc2 (v := (-7000003)) C.x C.b C.ow (C.ts _ (List.mem_cons_of_mem _ lkC_4)) dL_gaskets_644 ?_
  refine k_lcmp_eq (tgt := 657) C.x C.b dL_gaskets_647 dL_gaskets_648 (by decide) (fun q9 => absurd q9 (by decide)) (fun _ => ?_)
  refine lv_iinc (v := (nI 9)) (lv' := [(3, .int (nI 9)), (1, .long 0), (0, .ref h)]) C.x C.b dL_gaskets_651 hl (k := 0) rfl (by decide) (by decide) rfl (fun ls hl => ?_)
  refine lv_goto (tgt := 625) C.x C.b dL_gaskets_654 (by decide) ?_
  refine lv_iload_n C.x C.b dL_gaskets_625 rfl (lv_at hl 0 rfl) ?_
  refine lv_sipush (v := (nI 200)) C.x C.b dL_gaskets_626 (by decide) ?_
  refine lv_icmp_ge (tgt := 657) C.x C.b dL_gaskets_629 (by decide) (fun q9 => absurd q9 (by decide)) (fun _ => ?_)
  refine lv_aload_n C.x C.b dL_gaskets_632 rfl (lv_at hl 2 rfl) ?_
  refine lv_bipush (v := (nI 10)) C.x C.b dL_gaskets_633 (by decide) ?_
  refine lv_iconst (v := (nI 0)) C.x C.b dL_gaskets_635 (by decide) ?_
  refine lv_iload_n C.x C.b dL_gaskets_636 rfl (lv_at hl 0 rfl) ?_
  refine lv_iconst (v := (nI 4)) C.x C.b dL_gaskets_637 (by decide) ?_
  refine lv_irem C.x C.b dL_gaskets_638 (by decide) ?_
  refine k_topi (y := (nI 1)) (by decide) ?_
  refine lv_iconst (v := (nI 0)) C.x C.b dL_gaskets_639 (by decide) ?_
  refine lv_iconst (v := (nI 0)) C.x C.b dL_gaskets_640 (by decide) ?_
  refine k_actJ (As := [.ref h, .int (nI 10), .int (nI 0), .int (nI 1), .int (nI 0), .int (nI 0)]) (rest := []) (c2 := 4988) (s2 := 40312) (v := 187134) (m1 := _) C hX (act_10 hI.hd (nI 0) (nI 1) (nI 0) (nI 0) (iop_turn hst hI (nI 0) (nI 1))) (ev_turn 0 1 (by decide +kernel) (by decide) (by decide) (by decide +kernel) (by decide) rfl) (rfl) (gl_up inv_L_act) rfl hl.1 rfl (by decide) dL_gaskets_641 ⟨Nat.le_of_ble_eq_true rfl, Nat.le_of_ble_eq_true rfl⟩ ⟨Nat.le_of_ble_eq_true rfl, Nat.le_of_ble_eq_true rfl⟩ rfl rfl (fun f H locs hX hI => ?_)
  have hI : Inv G h f hS_gaskets_24 := hI.cg (hL [64751, 187134, 7754, 22403, 4, 1, 1, 0, 3, 6, 7, (-2), (-6), 11, 14, 15, 0, 0, 0, 0, 0, 0, 0, 0, 0, 0, 0, 0, 0, 0, 0, 0]) (hL [(-1), 2, 2, 3, 0, 0, 1, 1, (-2), 3, 6, 7, (-6), 11, 14, 15, 0, 0, 0, 0, 0, 0, 0, 0, 0, 0, 0, 0, 0, 0, 0, 0]) (hL [1, 0, 0, 1]) (hE [0, 0, 0, 0, 0, 0, 0, 0, 0, 0]) (hE [0, 0, 0, 0, 0, 0, 0, 0, 0, 0]) ⟨by decide +kernel, by decide +kernel, by decide +kernel⟩
  refine lv_ldc2 (v := (-7000003)) C.x C.b C.ow (C.ts _ (List.mem_cons_of_mem _ lkC_4)) dL_gaskets_644 ?_
  refine k_lcmp_eq (tgt := 657) C.x C.b dL_gaskets_647 dL_gaskets_648 (by decide) (fun q9 => absurd q9 (by decide)) (fun _ => ?_)
  refine lv_iinc (v := (nI 10)) (lv' := [(3, .int (nI 10)), (1, .long 0), (0, .ref h)]) C.x C.b dL_gaskets_651 hl (k := 0) rfl (by decide) (by decide) rfl (fun ls hl => ?_)
  refine lv_goto (tgt := 625) C.x C.b dL_gaskets_654 (by decide) ?_
  refine lv_iload_n C.x C.b dL_gaskets_625 rfl (lv_at hl 0 rfl) ?_
  refine lv_sipush (v := (nI 200)) C.x C.b dL_gaskets_626 (by decide) ?_
  refine lv_icmp_ge (tgt := 657) C.x C.b dL_gaskets_629 (by decide) (fun q9 => absurd q9 (by decide)) (fun _ => ?_)
  refine lv_aload_n C.x C.b dL_gaskets_632 rfl (lv_at hl 2 rfl) ?_
  refine lv_bipush (v := (nI 10)) C.x C.b dL_gaskets_633 (by decide) ?_
  refine lv_iconst (v := (nI 0)) C.x C.b dL_gaskets_635 (by decide) ?_
  refine lv_iload_n C.x C.b dL_gaskets_636 rfl (lv_at hl 0 rfl) ?_
  refine lv_iconst (v := (nI 4)) C.x C.b dL_gaskets_637 (by decide) ?_
  refine lv_irem C.x C.b dL_gaskets_638 (by decide) ?_
  refine k_topi (y := (nI 2)) (by decide) ?_
  refine lv_iconst (v := (nI 0)) C.x C.b dL_gaskets_639 (by decide) ?_
  refine lv_iconst (v := (nI 0)) C.x C.b dL_gaskets_640 (by decide) ?_
  refine k_actJ (As := [.ref h, .int (nI 10), .int (nI 0), .int (nI 2), .int (nI 0), .int (nI 0)]) (rest := []) (c2 := 4996) (s2 := 40376) (v := 540822) (m1 := _) C hX (act_10 hI.hd (nI 0) (nI 2) (nI 0) (nI 0) (iop_turn hst hI (nI 0) (nI 2))) (ev_turn 0 2 (by decide +kernel) (by decide) (by decide) (by decide +kernel) (by decide) rfl) (rfl) (gl_up inv_L_act) rfl hl.1 rfl (by decide) dL_gaskets_641 ⟨Nat.le_of_ble_eq_true rfl, Nat.le_of_ble_eq_true rfl⟩ ⟨Nat.le_of_ble_eq_true rfl, Nat.le_of_ble_eq_true rfl⟩ rfl rfl (fun f H locs hX hI => ?_)
  have hI : Inv G h f hS_gaskets_25 := hI.cg (hL [64751, 187134, 540822, 22403, 4, 1, 1, 0, 3, 6, 7, (-2), (-6), 11, 14, 15, 0, 0, 0, 0, 0, 0, 0, 0, 0, 0, 0, 0, 0, 0, 0, 0]) (hL [(-1), 2, 2, 3, 0, 0, 1, 1, (-2), 3, 6, 7, (-6), 11, 14, 15, 0, 0, 0, 0, 0, 0, 0, 0, 0, 0, 0, 0, 0, 0, 0, 0]) (hL [1, 0, 0, 1]) (hE [0, 0, 0, 0, 0, 0, 0, 0, 0, 0]) (hE [0, 0, 0, 0, 0, 0, 0, 0, 0, 0]) ⟨by decide +kernel, by decide +kernel, by decide +kernel⟩
  refine lv_ldc2 (v := (-7000003)) C.x C.b C.ow (C.ts _ (List.mem_cons_of_mem _ lkC_4)) dL_gaskets_644 ?_
  refine k_lcmp_eq (tgt := 657) C.x C.b dL_gaskets_647 dL_gaskets_648 (by decide) (fun q9 => absurd q9 (by decide)) (fun _ => ?_)
  refine lv_iinc (v := (nI 11)) (lv' := [(3, .int (nI 11)), (1, .long 0), (0, .ref h)]) C.x C.b dL_gaskets_651 hl (k := 0) rfl (by decide) (by decide) rfl (fun ls hl => ?_)
  refine lv_goto (tgt := 625) C.x C.b dL_gaskets_654 (by decide) ?_
  refine lv_iload_n C.x C.b dL_gaskets_625 rfl (lv_at hl 0 rfl) ?_
  refine lv_sipush (v := (nI 200)) C.x C.b dL_gaskets_626 (by decide) ?_
  refine lv_icmp_ge (tgt := 657) C.x C.b dL_gaskets_629 (by decide) (fun q9 => absurd q9 (by decide)) (fun _ => ?_)
  refine lv_aload_n C.x C.b dL_gaskets_632 rfl (lv_at hl 2 rfl) ?_
  refine lv_bipush (v := (nI 10)) C.x C.b dL_gaskets_633 (by decide) ?_
  refine lv_iconst (v := (nI 0)) C.x C.b dL_gaskets_635 (by decide) ?_
  refine lv_iload_n C.x C.b dL_gaskets_636 rfl (lv_at hl 0 rfl) ?_
  refine lv_iconst (v := (nI 4)) C.x C.b dL_gaskets_637 (by decide) ?_
  refine lv_irem C.x C.b dL_gaskets_638 (by decide) ?_
  refine k_topi (y := (nI 3)) (by decide) ?_
  refine lv_iconst (v := (nI 0)) C.x C.b dL_gaskets_639 (by decide) ?_
  refine lv_iconst (v := (nI 0)) C.x C.b dL_gaskets_640 (by decide) ?_
  refine k_actJ (As := [.ref h, .int (nI 10), .int (nI 0), .int (nI 3), .int (nI 0), .int (nI 0)]) (rest := []) (c2 := 5004) (s2 := 40440) (v := 1563011) (m1 := _) C hX (act_10 hI.hd (nI 0) (nI 3) (nI 0) (nI 0) (iop_turn hst hI (nI 0) (nI 3))) (ev_turn 0 3 (by decide +kernel) (by decide) (by decide) (by decide +kernel) (by decide) rfl) (rfl) (gl_up inv_L_act) rfl hl.1 rfl (by decide) dL_gaskets_641 ⟨Nat.le_of_ble_eq_true rfl, Nat.le_of_ble_eq_true rfl⟩ ⟨Nat.le_of_ble_eq_true rfl, Nat.le_of_ble_eq_true rfl⟩ rfl rfl (fun f H locs hX hI => ?_)
  have hI : Inv G h f hS_gaskets_26 := hI.cg (hL [64751, 187134, 540822, 1563011, 4, 1, 1, 0, 3, 6, 7, (-2), (-6), 11, 14, 15, 0, 0, 0, 0, 0, 0, 0, 0, 0, 0, 0, 0, 0, 0, 0, 0]) (hL [(-1), 2, 2, 3, 0, 0, 1, 1, (-2), 3, 6, 7, (-6), 11, 14, 15, 0, 0, 0, 0, 0, 0, 0, 0, 0, 0, 0, 0, 0, 0, 0, 0]) (hL [1, 0, 0, 1]) (hE [0, 0, 0, 0, 0, 0, 0, 0, 0, 0]) (hE [0, 0, 0, 0, 0, 0, 0, 0, 0, 0]) ⟨by decide +kernel, by decide +kernel, by decide +kernel⟩
  refine lv_ldc2 (v := (-7000003)) C.x C.b C.ow (C.ts _ (List.mem_cons_of_mem _ lkC_4)) dL_gaskets_644 ?_
  refine k_lcmp_eq (tgt := 657) C.x C.b dL_gaskets_647 dL_gaskets_648 (by decide) (fun q9 => absurd q9 (by decide)) (fun _ => ?_)
  refine lv_iinc (v := (nI 12)) (lv' := [(3, .int (nI 12)), (1, .long 0), (0, .ref h)]) C.x C.b dL_gaskets_651 hl (k := 0) rfl (by decide) (by decide) rfl (fun ls hl => ?_)
  refine lv_goto (tgt := 625) C.x C.b dL_gaskets_654 (by decide) ?_
  refine lv_iload_n C.x C.b dL_gaskets_625 rfl (lv_at hl 0 rfl) ?_
  refine lv_sipush (v := (nI 200)) C.x C.b dL_gaskets_626 (by decide) ?_
  refine lv_icmp_ge (tgt := 657) C.x C.b dL_gaskets_629 (by decide) (fun q9 => absurd q9 (by decide)) (fun _ => ?_)
  refine lv_aload_n C.x C.b dL_gaskets_632 rfl (lv_at hl 2 rfl) ?_
  refine lv_bipush (v := (nI 10)) C.x C.b dL_gaskets_633 (by decide) ?_
  refine lv_iconst (v := (nI 0)) C.x C.b dL_gaskets_635 (by decide) ?_
  refine lv_iload_n C.x C.b dL_gaskets_636 rfl (lv_at hl 0 rfl) ?_
  refine lv_iconst (v := (nI 4)) C.x C.b dL_gaskets_637 (by decide) ?_
  refine lv_irem C.x C.b dL_gaskets_638 (by decide) ?_
  refine k_topi (y := (nI 0)) (by decide) ?_
  refine lv_iconst (v := (nI 0)) C.x C.b dL_gaskets_639 (by decide) ?_
  refine lv_iconst (v := (nI 0)) C.x C.b dL_gaskets_640 (by decide) ?_
  refine k_actJ (As := [.ref h, .int (nI 10), .int (nI 0), .int (nI 0), .int (nI 0), .int (nI 0)]) (rest := []) (c2 := 5012) (s2 := 40504) (v := 4517183) (m1 := _) C hX (act_10 hI.hd (nI 0) (nI 0) (nI 0) (nI 0) (iop_turn hst hI (nI 0) (nI 0))) (ev_turn 0 0 (by decide +kernel) (by decide) (by decide) (by decide +kernel) (by decide) rfl) (rfl) (gl_up inv_L_act) rfl hl.1 rfl (by decide) dL_gaskets_641 ⟨Nat.le_of_ble_eq_true rfl, Nat.le_of_ble_eq_true rfl⟩ ⟨Nat.le_of_ble_eq_true rfl, Nat.le_of_ble_eq_true rfl⟩ rfl rfl (fun f H locs hX hI => ?_)
  have hI : Inv G h f hS_gaskets_27 := hI.cg (hL [4517183, 187134, 540822, 1563011, 4, 1, 1, 0, 3, 6, 7, (-2), (-6), 11, 14, 15, 0, 0, 0, 0, 0, 0, 0, 0, 0, 0, 0, 0, 0, 0, 0, 0]) (hL [(-1), 2, 2, 3, 0, 0, 1, 1, (-2), 3, 6, 7, (-6), 11, 14, 15, 0, 0, 0, 0, 0, 0, 0, 0, 0, 0, 0, 0, 0, 0, 0, 0]) (hL [1, 0, 0, 1]) (hE [0, 0, 0, 0, 0, 0, 0, 0, 0, 0]) (hE [0, 0, 0, 0, 0, 0, 0, 0, 0, 0]) ⟨by decide +kernel, by decide +kernel, by decide +kernel⟩
  refine lv_ldc2 (v := (-7000003)) C.x C.b C.ow (C.ts _ (List.mem_cons_of_mem _ lkC_4)) dL_gaskets_644 ?_
  refine k_lcmp_eq (tgt := 657) C.x C.b dL_gaskets_647 dL_gaskets_648 (by decide) (fun q9 => absurd q9 (by decide)) (fun _ => ?_)
  refine lv_iinc (v := (nI 13)) (lv' := [(3, .int (nI 13)), (1, .long 0), (0, .ref h)]) C.x C.b dL_gaskets_651 hl (k := 0) rfl (by decide) (by decide) rfl (fun ls hl => ?_)
  refine lv_goto (tgt := 625) C.x C.b dL_gaskets_654 (by decide) ?_
  refine lv_iload_n C.x C.b dL_gaskets_625 rfl (lv_at hl 0 rfl) ?_
  refine lv_sipush (v := (nI 200)) C.x C.b dL_gaskets_626 (by decide) ?_
  refine lv_icmp_ge (tgt := 657) C.x C.b dL_gaskets_629 (by decide) (fun q9 => absurd q9 (by decide)) (fun _ => ?_)
  refine lv_aload_n C.x C.b dL_gaskets_632 rfl (lv_at hl 2 rfl) ?_
  refine lv_bipush (v := (nI 10)) C.x C.b dL_gaskets_633 (by decide) ?_
  refine lv_iconst (v := (nI 0)) C.x C.b dL_gaskets_635 (by decide) ?_
  refine lv_iload_n C.x C.b dL_gaskets_636 rfl (lv_at hl 0 rfl) ?_
  refine lv_iconst (v := (nI 4)) C.x C.b dL_gaskets_637 (by decide) ?_
  refine lv_irem C.x C.b dL_gaskets_638 (by decide) ?_
  refine k_topi (y := (nI 1)) (by decide) ?_
  refine lv_iconst (v := (nI 0)) C.x C.b dL_gaskets_639 (by decide) ?_
  refine lv_iconst (v := (nI 0)) C.x C.b dL_gaskets_640 (by decide) ?_
  refine k_actJ (As := [.ref h, .int (nI 10), .int (nI 0), .int (nI 1), .int (nI 0), .int (nI 0)]) (rest := []) (c2 := 5020) (s2 := 40568) (v := 13054898) (m1 := _) C hX (act_10 hI.hd (nI 0) (nI 1) (nI 0) (nI 0) (iop_turn hst hI (nI 0) (nI 1))) (ev_turn 0 1 (by decide +kernel) (by decide) (by decide) (by decide +kernel) (by decide) rfl) (rfl) (gl_up inv_L_act) rfl hl.1 rfl (by decide) dL_gaskets_641 ⟨Nat.le_of_ble_eq_true rfl, Nat.le_of_ble_eq_true rfl⟩ ⟨Nat.le_of_ble_eq_true rfl, Nat.le_of_ble_eq_true rfl⟩ rfl rfl (fun f H locs hX hI => ?_)
  have hI : Inv G h f hS_gaskets_28 := hI.cg (hL [4517183, 13054898, 540822, 1563011, 4, 1, 1, 0, 3, 6, 7, (-2), (-6), 11, 14, 15, 0, 0, 0, 0, 0, 0, 0, 0, 0, 0, 0, 0, 0, 0, 0, 0]) (hL [(-1), 2, 2, 3, 0, 0, 1, 1, (-2), 3, 6, 7, (-6), 11, 14, 15, 0, 0, 0, 0, 0, 0, 0, 0, 0, 0, 0, 0, 0, 0, 0, 0]) (hL [1, 0, 0, 1]) (hE [0, 0, 0, 0, 0, 0, 0, 0, 0, 0]) (hE [0, 0, 0, 0, 0, 0, 0, 0, 0, 0]) ⟨by decide +kernel, by decide +kernel, by decide +kernel⟩
  refine lv_ldc2 (v := (-7000003)) C.x C.b C.ow (C.ts _ (List.mem_cons_of_mem _ lkC_4)) dL_gaskets_644 ?_
  refine k_lcmp_eq (tgt := 657) C.x C.b dL_gaskets_647 dL_gaskets_648 (by decide) (fun q9 => absurd q9 (by decide)) (fun _ => ?_)
  refine lv_iinc (v := (nI 14)) (lv' := [(3, .int (nI 14)), (1, .long 0), (0, .ref h)]) C.x C.b dL_gaskets_651 hl (k := 0) rfl (by decide) (by decide) rfl (fun ls hl => ?_)
  refine lv_goto (tgt := 625) C.x C.b dL_gaskets_654 (by decide) ?_
  refine lv_iload_n C.x C.b dL_gaskets_625 rfl (lv_at hl 0 rfl) ?_
  refine lv_sipush (v := (nI 200)) C.x C.b dL_gaskets_626 (by decide) ?_
  refine lv_icmp_ge (tgt := 657) C.x C.b dL_gaskets_629 (by decide) (fun q9 => absurd q9 (by decide)) (fun _ => ?_)
  refine lv_aload_n C.x C.b dL_gaskets_632 rfl (lv_at hl 2 rfl) ?_
  refine lv_bipush (v := (nI 10)) C.x C.b dL_gaskets_633 (by decide) ?_
  refine lv_iconst (v := (nI 0)) C.x C.b dL_gaskets_635 (by decide) ?_
  refine lv_iload_n C.x C.b dL_gaskets_636 rfl (lv_at hl 0 rfl) ?_
  refine lv_iconst (v := (nI 4)) C.x C.b dL_gaskets_637 (by decide) ?_
  refine lv_irem C.x C.b dL_gaskets_638 (by decide) ?_
  refine k_topi (y := (nI 2)) (by decide) ?_
  refine lv_iconst (v := (nI 0)) C.x C.b dL_gaskets_639 (by decide) ?_
  refine lv_iconst (v := (nI 0)) C.x C.b dL_gaskets_640 (by decide) ?_
  refine k_actJ (As := [.ref h, .int (nI 10), .int (nI 0), .int (nI 2), .int (nI 0), .int (nI 0)]) (rest := []) (c2 := 5028) (s2 := 40632) (v := 37729362) (m1 := _) C hX (act_10 hI.hd (nI 0) (nI 2) (nI 0) (nI 0) (iop_turn hst hI (nI 0) (nI 2))) (ev_turn 0 2 (by decide +kernel) (by decide) (by decide) (by decide +kernel) (by decide) rfl) (rfl) (gl_up inv_L_act) rfl hl.1 rfl (by decide) dL_gaskets_641 ⟨Nat.le_of_ble_eq_true rfl, Nat.le_of_ble_eq_true rfl⟩ ⟨Nat.le_of_ble_eq_true rfl, Nat.le_of_ble_eq_true rfl⟩ rfl rfl (fun f H locs hX hI => ?_)
  have hI : Inv G h f hS_gaskets_29 := hI.cg (hL [4517183, 13054898, 37729362, 1563011, 4, 1, 1, 0, 3, 6, 7, (-2), (-6), 11, 14, 15, 0, 0, 0, 0, 0, 0, 0, 0, 0, 0, 0, 0, 0, 0, 0, 0]) (hL [(-1), 2, 2, 3, 0, 0, 1, 1, (-2), 3, 6, 7, (-6), 11, 14, 15, 0, 0, 0, 0, 0, 0, 0, 0, 0, 0, 0, 0, 0, 0, 0, 0]) (hL [1, 0, 0, 1]) (hE [0, 0, 0, 0, 0, 0, 0, 0, 0, 0]) (hE [0, 0, 0, 0, 0, 0, 0, 0, 0, 0]) ⟨by decide +kernel, by decide +kernel, by decide +kernel⟩
  refine lv_ldc2 (v := (-7000003)) C.x C.b C.ow (C.ts _ (List.mem_cons_of_mem _ lkC_4)) dL_gaskets_644 ?_
  refine k_lcmp_eq (tgt := 657) C.x C.b dL_gaskets_647 dL_gaskets_648 (by decide) (fun q9 => absurd q9 (by decide)) (fun _ => ?_)
  refine lv_iinc (v := (nI 15)) (lv' := [(3, .int (nI 15)), (1, .long 0), (0, .ref h)]) C.x C.b dL_gaskets_651 hl (k := 0) rfl (by decide) (by decide) rfl (fun ls hl => ?_)
  refine lv_goto (tgt := 625) C.x C.b dL_gaskets_654 (by decide) ?_
  refine lv_iload_n C.x C.b dL_gaskets_625 rfl (lv_at hl 0 rfl) ?_
  refine lv_sipush (v := (nI 200)) C.x C.b dL_gaskets_626 (by decide) ?_
  refine lv_icmp_ge (tgt := 657) C.x C.b dL_gaskets_629 (by decide) (fun q9 => absurd q9 (by decide)) (fun _ => ?_)
  refine lv_aload_n C.x C.b dL_gaskets_632 rfl (lv_at hl 2 rfl) ?_
  refine lv_bipush (v := (nI 10)) C.x C.b dL_gaskets_633 (by decide) ?_
  refine lv_iconst (v := (nI 0)) C.x C.b dL_gaskets_635 (by decide) ?_
  refine lv_iload_n C.x C.b dL_gaskets_636 rfl (lv_at hl 0 rfl) ?_
  refine lv_iconst (v := (nI 4)) C.x C.b dL_gaskets_637 (by decide) ?_
  refine lv_irem C.x C.b dL_gaskets_638 (by decide) ?_
  refine k_topi (y := (nI 3)) (by decide) ?_
  refine lv_iconst (v := (nI 0)) C.x C.b dL_gaskets_639 (by decide) ?_
  refine lv_iconst (v := (nI 0)) C.x C.b dL_gaskets_640 (by decide) ?_
  refine k_actJ (As := [.ref h, .int (nI 10), .int (nI 0), .int (nI 3), .int (nI 0), .int (nI 0)]) (rest := []) (c2 := 5036) (s2 := 40696) (v := 109039875) (m1 := _) C hX (act_10 hI.hd (nI 0) (nI 3) (nI 0) (nI 0) (iop_turn hst hI (nI 0) (nI 3))) (ev_turn 0 3 (by decide +kernel) (by decide) (by decide) (by decide +kernel) (by decide) rfl) (rfl) (gl_up inv_L_act) rfl hl.1 rfl (by decide) dL_gaskets_641 ⟨Nat.le_of_ble_eq_true rfl, Nat.le_of_ble_eq_true rfl⟩ ⟨Nat.le_of_ble_eq_true rfl, Nat.le_of_ble_eq_true rfl⟩ rfl rfl (fun f H locs hX hI => ?_)
  have hI : Inv G h f hS_gaskets_30 := hI.cg (hL [4517183, 13054898, 37729362, 109039875, 4, 1, 1, 0, 3, 6, 7, (-2), (-6), 11, 14, 15, 0, 0, 0, 0, 0, 0, 0, 0, 0, 0, 0, 0, 0, 0, 0, 0]) (hL [(-1), 2, 2, 3, 0, 0, 1, 1, (-2), 3, 6, 7, (-6), 11, 14, 15, 0, 0, 0, 0, 0, 0, 0, 0, 0, 0, 0, 0, 0, 0, 0, 0]) (hL [1, 0, 0, 1]) (hE [0, 0, 0, 0, 0, 0, 0, 0, 0, 0]) (hE [0, 0, 0, 0, 0, 0, 0, 0, 0, 0]) ⟨by decide +kernel, by decide +kernel, by decide +kernel⟩
  refine lv_ldc2 (v := (-7000003)) C.x C.b C.ow (C.ts _ (List.mem_cons_of_mem _ lkC_4)) dL_gaskets_644 ?_
  refine k_lcmp_eq (tgt := 657) C.x C.b dL_gaskets_647 dL_gaskets_648 (by decide) (fun q9 => absurd q9 (by decide)) (fun _ => ?_)
  refine lv_iinc (v := (nI 16)) (lv' := [(3, .int (nI 16)), (1, .long 0), (0, .ref h)]) C.x C.b dL_gaskets_651 hl (k := 0) rfl (by decide) (by decide) rfl (fun ls hl => ?_)
  refine lv_goto (tgt := 625) C.x C.b dL_gaskets_654 (by decide) ?_
  refine lv_iload_n C.x C.b dL_gaskets_625 rfl (lv_at hl 0 rfl) ?_
  refine lv_sipush (v := (nI 200)) C.x C.b dL_gaskets_626 (by decide) ?_
  refine lv_icmp_ge (tgt := 657) C.x C.b dL_gaskets_629 (by decide) (fun q9 => absurd q9 (by decide)) (fun _ => ?_)
  refine lv_aload_n C.x C.b dL_gaskets_632 rfl (lv_at hl 2 rfl) ?_
  refine lv_bipush (v := (nI 10)) C.x C.b dL_gaskets_633 (by decide) ?_
  refine lv_iconst (v := (nI 0)) C.x C.b dL_gaskets_635 (by decide) ?_
  refine lv_iload_n C.x C.b dL_gaskets_636 rfl (lv_at hl 0 rfl) ?_
  refine lv_iconst (v := (nI 4)) C.x C.b dL_gaskets_637 (by decide) ?_
  refine lv_irem C.x C.b dL_gaskets_638 (by decide) ?_
  refine k_topi (y := (nI 0)) (by decide) ?_
  refine lv_iconst (v := (nI 0)) C.x C.b dL_gaskets_639 (by decide) ?_
  refine lv_iconst (v := (nI 0)) C.x C.b dL_gaskets_640 (by decide) ?_
  refine k_actJ (As := [.ref h, .int (nI 10), .int (nI 0), .int (nI 0), .int (nI 0), .int (nI 0)]) (rest := []) (c2 := 5044) (s2 := 40760) (v := 315131087) (m1 := _) C hX (act_10 hI.hd (nI 0) (nI 0) (nI 0) (nI 0) (iop_turn hst hI (nI 0) (nI 0))) (ev_turn 0 0 (by decide +kernel) (by decide) (by decide) (by decide +kernel) (by decide) rfl) (rfl) (gl_up inv_L_act) rfl hl.1 rfl (by decide) dL_gaskets_641 ⟨Nat.le_of_ble_eq_true rfl, Nat.le_of_ble_eq_true rfl⟩ ⟨Nat.le_of_ble_eq_true rfl, Nat.le_of_ble_eq_true rfl⟩ rfl rfl (fun f H locs hX hI => ?_)
  have hI : Inv G h f hS_gaskets_31 := hI.cg (hL [315131087, 13054898, 37729362, 109039875, 4, 1, 1, 0, 3, 6, 7, (-2), (-6), 11, 14, 15, 0, 0, 0, 0, 0, 0, 0, 0, 0, 0, 0, 0, 0, 0, 0, 0]) (hL [(-1), 2, 2, 3, 0, 0, 1, 1, (-2), 3, 6, 7, (-6), 11, 14, 15, 0, 0, 0, 0, 0, 0, 0, 0, 0, 0, 0, 0, 0, 0, 0, 0]) (hL [1, 0, 0, 1]) (hE [0, 0, 0, 0, 0, 0, 0, 0, 0, 0]) (hE [0, 0, 0, 0, 0, 0, 0, 0, 0, 0]) ⟨by decide +kernel, by decide +kernel, by decide +kernel⟩
  refine lv_ldc2 (v := (-7000003)) C.x C.b C.ow (C.ts _ (List.mem_cons_of_mem _ lkC_4)) dL_gaskets_644 ?_
  refine k_lcmp_eq (tgt := 657) C.x C.b dL_gaskets_647 dL_gaskets_648 (by decide) (fun q9 => absurd q9 (by decide)) (fun _ => ?_)
  refine lv_iinc (v := (nI 17)) (lv' := [(3, .int (nI 17)), (1, .long 0), (0, .ref h)]) C.x C.b dL_gaskets_651 hl (k := 0) rfl (by decide) (by decide) rfl (fun ls hl => ?_)
  refine lv_goto (tgt := 625) C.x C.b dL_gaskets_654 (by decide) ?_
  refine lv_iload_n C.x C.b dL_gaskets_625 rfl (lv_at hl 0 rfl) ?_
  refine lv_sipush (v := (nI 200)) C.x C.b dL_gaskets_626 (by decide) ?_
  refine lv_icmp_ge (tgt := 657) C.x C.b dL_gaskets_629 (by decide) (fun q9 => absurd q9 (by decide)) (fun _ => ?_)
  refine lv_aload_n C.x C.b dL_gaskets_632 rfl (lv_at hl 2 rfl) ?_
  refine lv_bipush (v := (nI 10)) C.x C.b dL_gaskets_633 (by decide) ?_
  refine lv_iconst (v := (nI 0)) C.x C.b dL_gaskets_635 (by decide) ?_
  refine lv_iload_n C.x C.b dL_gaskets_636 rfl (lv_at hl 0 rfl) ?_
  refine lv_iconst (v := (nI 4)) C.x C.b dL_gaskets_637 (by decide) ?_
  refine lv_irem C.x C.b dL_gaskets_638 (by decide) ?_
  refine k_topi (y := (nI 1)) (by decide) ?_
  refine lv_iconst (v := (nI 0)) C.x C.b dL_gaskets_639 (by decide) ?_
  refine lv_iconst (v := (nI 0)) C.x C.b dL_gaskets_640 (by decide) ?_
  refine k_actJ (As := [.ref h, .int (nI 10), .int (nI 0), .int (nI 1), .int (nI 0), .int (nI 0)]) (rest := []) (c2 := 5052) (s2 := 40824) (v := 910745750) (m1 := _) C hX (act_10 hI.hd (nI 0) (nI 1) (nI 0) (nI 0) (iop_turn hst hI (nI 0) (nI 1))) (ev_turn 0 1 (by decide +kernel) (by decide) (by decide) (by decide +kernel) (by decide) rfl) (rfl) (gl_up inv_L_act) rfl hl.1 rfl (by decide) dL_gaskets_641 ⟨Nat.le_of_ble_eq_true rfl, Nat.le_of_ble_eq_true rfl⟩ ⟨Nat.le_of_ble_eq_true rfl, Nat.le_of_ble_eq_true rfl⟩ rfl rfl (fun f H locs hX hI => ?_)
  have hI : Inv G h f hS_gaskets_32 := hI.cg (hL [315131087, 910745750, 37729362, 109039875, 4, 1, 1, 0, 3, 6, 7, (-2), (-6), 11, 14, 15, 0, 0, 0, 0, 0, 0, 0, 0, 0, 0, 0, 0, 0, 0, 0, 0]) (hL [(-1), 2, 2, 3, 0, 0, 1, 1, (-2), 3, 6, 7, (-6), 11, 14, 15, 0, 0, 0, 0, 0, 0, 0, 0, 0, 0, 0, 0, 0, 0, 0, 0]) (hL [1, 0, 0, 1]) (hE [0, 0, 0, 0, 0, 0, 0, 0, 0, 0]) (hE [0, 0, 0, 0, 0, 0, 0, 0, 0, 0]) ⟨by decide +kernel, by decide +kernel, by decide +kernel⟩
  refine lv_ldc2 (v := (-7000003)) C.x C.b C.ow (C.ts _ (List.mem_cons_of_mem _ lkC_4)) dL_gaskets_644 ?_
  refine k_lcmp_eq (tgt := 657) C.x C.b dL_gaskets_647 dL_gaskets_648 (by decide) (fun q9 => absurd q9 (by decide)) (fun _ => ?_)
  refine lv_iinc (v := (nI 18)) (lv' := [(3, .int (nI 18)), (1, .long 0), (0, .ref h)]) C.x C.b dL_gaskets_651 hl (k := 0) rfl (by decide) (by decide) rfl (fun ls hl => ?_)
  refine lv_goto (tgt := 625) C.x C.b dL_gaskets_654 (by decide) ?_
  refine lv_iload_n C.x C.b dL_gaskets_625 rfl (lv_at hl 0 rfl) ?_
  refine lv_sipush (v := (nI 200)) C.x C.b dL_gaskets_626 (by decide) ?_
  refine lv_icmp_ge (tgt := 657) C.x C.b dL_gaskets_629 (by decide) (fun q9 => absurd q9 (by decide)) (fun _ => ?_)
  refine lv_aload_n C.x C.b dL_gaskets_632 rfl (lv_at hl 2 rfl) ?_
  refine lv_bipush (v := (nI 10)) C.x C.b dL_gaskets_633 (by decide) ?_
  refine lv_iconst (v := (nI 0)) C.x C.b dL_gaskets_635 (by decide) ?_
  refine lv_iload_n C.x C.b dL_gaskets_636 rfl (lv_at hl 0 rfl) ?_
  refine lv_iconst (v := (nI 4)) C.x C.b dL_gaskets_637 (by decide) ?_
  refine lv_irem C.x C.b dL_gaskets_638 (by decide) ?_
  refine k_topi (y := (nI 2)) (by decide) ?_
  refine lv_iconst (v := (nI 0)) C.x C.b dL_gaskets_639 (by decide) ?_
  refine lv_iconst (v := (nI 0)) C.x C.b dL_gaskets_640 (by decide) ?_
  refine k_actJ (As := [.ref h, .int (nI 10), .int (nI 0), .int (nI 2), .int (nI 0), .int (nI 0)]) (rest := []) (c2 := 5060) (s2 := 40888) (v := 2632104062) (m1 := _) C hX (act_10 hI.hd (nI 0) (nI 2) (nI 0) (nI 0) (iop_turn hst hI (nI 0) (nI 2))) (ev_turn 0 2 (by decide +kernel) (by decide) (by decide) (by decide +kernel) (by decide) rfl) (rfl) (gl_up inv_L_act) rfl hl.1 rfl (by decide) dL_gaskets_641 ⟨Nat.le_of_ble_eq_true rfl, Nat.le_of_ble_eq_true rfl⟩ ⟨Nat.le_of_ble_eq_true rfl, Nat.le_of_ble_eq_true rfl⟩ rfl rfl (fun f H locs hX hI => ?_)
  have hI : Inv G h f hS_gaskets_33 := hI.cg (hL [315131087, 910745750, 2632104062, 109039875, 4, 1, 1, 0, 3, 6, 7, (-2), (-6), 11, 14, 15, 0, 0, 0, 0, 0, 0, 0, 0, 0, 0, 0, 0, 0, 0, 0, 0]) (hL [(-1), 2, 2, 3, 0, 0, 1, 1, (-2), 3, 6, 7, (-6), 11, 14, 15, 0, 0, 0, 0, 0, 0, 0, 0, 0, 0, 0, 0, 0, 0, 0, 0]) (hL [1, 0, 0, 1]) (hE [0, 0, 0, 0, 0, 0, 0, 0, 0, 0]) (hE [0, 0, 0, 0, 0, 0, 0, 0, 0, 0]) ⟨by decide +kernel, by decide +kernel, by decide +kernel⟩
  refine lv_ldc2 (v := (-7000003)) C.x C.b C.ow (C.ts _ (List.mem_cons_of_mem _ lkC_4)) dL_gaskets_644 ?_
  refine k_lcmp_eq (tgt := 657) C.x C.b dL_gaskets_647 dL_gaskets_648 (by decide) (fun q9 => absurd q9 (by decide)) (fun _ => ?_)
  refine lv_iinc (v := (nI 19)) (lv' := [(3, .int (nI 19)), (1, .long 0), (0, .ref h)]) C.x C.b dL_gaskets_651 hl (k := 0) rfl (by decide) (by decide) rfl (fun ls hl => ?_)
  refine lv_goto (tgt := 625) C.x C.b dL_gaskets_654 (by decide) ?_
  refine lv_iload_n C.x C.b dL_gaskets_625 rfl (lv_at hl 0 rfl) ?_
  refine lv_sipush (v := (nI 200)) C.x C.b dL_gaskets_626 (by decide) ?_
  refine lv_icmp_ge (tgt := 657) C.x C.b dL_gaskets_629 (by decide) (fun q9 => absurd q9 (by decide)) (fun _ => ?_)
  refine lv_aload_n C.x C.b dL_gaskets_632 rfl (lv_at hl 2 rfl) ?_
  refine lv_bipush (v := (nI 10)) C.x C.b dL_gaskets_633 (by decide) ?_
  refine lv_iconst (v := (nI 0)) C.x C.b dL_gaskets_635 (by decide) ?_
  refine lv_iload_n C.x C.b dL_gaskets_636 rfl (lv_at hl 0 rfl) ?_
  refine lv_iconst (v := (nI 4)) C.x C.b dL_gaskets_637 (by decide) ?_
  refine lv_irem C.x C.b dL_gaskets_638 (by decide) ?_
  refine k_topi (y := (nI 3)) (by decide) ?_
  refine lv_iconst (v := (nI 0)) C.x C.b dL_gaskets_639 (by decide) ?_
  refine lv_iconst (v := (nI 0)) C.x C.b dL_gaskets_640 (by decide) ?_
  refine k_actJ (As := [.ref h, .int (nI 10), .int (nI 0), .int (nI 3), .int (nI 0), .int (nI 0)]) (rest := []) (c2 := 5068) (s2 := 40952) (v := 7606921923) (m1 := _) C hX (act_10 hI.hd (nI 0) (nI 3) (nI 0) (nI 0) (iop_turn hst hI (nI 0) (nI 3))) (ev_turn 0 3 (by decide +kernel) (by decide) (by decide) (by decide +kernel) (by decide) rfl) (rfl) (gl_up inv_L_act) rfl hl.1 rfl (by decide) dL_gaskets_641 ⟨Nat.le_of_ble_eq_true rfl, Nat.le_of_ble_eq_true rfl⟩ ⟨Nat.le_of_ble_eq_true rfl, Nat.le_of_ble_eq_true rfl⟩ rfl rfl (fun f H locs hX hI => ?_)
  have hI : Inv G h f hS_gaskets_34 := hI.cg (hL [315131087, 910745750, 2632104062, 7606921923, 4, 1, 1, 0, 3, 6, 7, (-2), (-6), 11, 14, 15, 0, 0, 0, 0, 0, 0, 0, 0, 0, 0, 0, 0, 0, 0, 0, 0]) (hL [(-1), 2, 2, 3, 0, 0, 1, 1, (-2), 3, 6, 7, (-6), 11, 14, 15, 0, 0, 0, 0, 0, 0, 0, 0, 0, 0, 0, 0, 0, 0, 0, 0]) (hL [1, 0, 0, 1]) (hE [0, 0, 0, 0, 0, 0, 0, 0, 0, 0]) (hE [0, 0, 0, 0, 0, 0, 0, 0, 0, 0]) ⟨by decide +kernel, by decide +kernel, by decide +kernel⟩
  refine lv_ldc2 (v := (-7000003)) C.x C.b C.ow (C.ts _ (List.mem_cons_of_mem _ lkC_4)) dL_gaskets_644 ?_
  refine k_lcmp_eq (tgt := 657) C.x C.b dL_gaskets_647 dL_gaskets_648 (by decide) (fun q9 => absurd q9 (by decide)) (fun _ => ?_)
  refine lv_iinc (v := (nI 20)) (lv' := [(3, .int (nI 20)), (1, .long 0), (0, .ref h)]) C.x C.b dL_gaskets_651 hl (k := 0) rfl (by decide) (by decide) rfl (fun ls hl => ?_)
  refine lv_goto (tgt := 625) C.x C.b dL_gaskets_654 (by decide) ?_
  refine lv_iload_n C.x C.b dL_gaskets_625 rfl (lv_at hl 0 rfl) ?_
  refine lv_sipush (v := (nI 200)) C.x C.b dL_gaskets_626 (by decide) ?_
  refine lv_icmp_ge (tgt := 657) C.x C.b dL_gaskets_629 (by decide) (fun q9 => absurd q9 (by decide)) (fun _ => ?_)
  refine lv_aload_n C.x C.b dL_gaskets_632 rfl (lv_at hl 2 rfl) ?_
  refine lv_bipush (v := (nI 10)) C.x C.b dL_gaskets_633 (by decide) ?_
  refine lv_iconst (v := (nI 0)) C.x C.b dL_gaskets_635 (by decide) ?_
  refine lv_iload_n C.x C.b dL_gaskets_636 rfl (lv_at hl 0 rfl) ?_
  refine lv_iconst (v := (nI 4)) C.x C.b dL_gaskets_637 (by decide) ?_
  refine lv_irem C.x C.b dL_gaskets_638 (by decide) ?_
  refine k_topi (y := (nI 0)) (by decide) ?_
  refine lv_iconst (v := (nI 0)) C.x C.b dL_gaskets_639 (by decide) ?_
  refine lv_iconst (v := (nI 0)) C.x C.b dL_gaskets_640 (by decide) ?_
  refine k_actJ (As := [.ref h, .int (nI 10), .int (nI 0), .int (nI 0), .int (nI 0), .int (nI 0)]) (rest := []) (c2 := 5076) (s2 := 41016) (v := 21984412383) (m1 := _) C hX (act_10 hI.hd (nI 0) (nI 0) (nI 0) (nI 0) (iop_turn hst hI (nI 0) (nI 0))) (ev_turn 0 0 (by decide +kernel) (by decide) (by decide) (by decide +kernel) (by decide) rfl) (rfl) (gl_up inv_L_act) rfl hl.1 rfl (by decide) dL_gaskets_641 ⟨Nat.le_of_ble_eq_true rfl, Nat.le_of_ble_eq_true rfl⟩ ⟨Nat.le_of_ble_eq_true rfl, Nat.le_of_ble_eq_true rfl⟩ rfl rfl (fun f H locs hX hI => ?_)
  have hI : Inv G h f hS_gaskets_35 := hI.cg (hL [21984412383, 910745750, 2632104062, 7606921923, 4, 1, 1, 0, 3, 6, 7, (-2), (-6), 11, 14, 15, 0, 0, 0, 0, 0, 0, 0, 0, 0, 0, 0, 0, 0, 0, 0, 0]) (hL [(-1), 2, 2, 3, 0, 0, 1, 1, (-2), 3, 6, 7, (-6), 11, 14, 15, 0, 0, 0, 0, 0, 0, 0, 0, 0, 0, 0, 0, 0, 0, 0, 0]) (hL [1, 0, 0, 1]) (hE [0, 0, 0, 0, 0, 0, 0, 0, 0, 0]) (hE [0, 0, 0, 0, 0, 0, 0, 0, 0, 0]) ⟨by decide +kernel, by decide +kernel, by decide +kernel⟩
  refine lv_ldc2 (v := (-7000003)) C.x C.b C.ow (C.ts _ (List.mem_cons_of_mem _ lkC_4)) dL_gaskets_644 ?_
  refine k_lcmp_eq (tgt := 657) C.x C.b dL_gaskets_647 dL_gaskets_648 (by decide) (fun q9 => absurd q9 (by decide)) (fun _ => ?_)
  refine lv_iinc (v := (nI 21)) (lv' := [(3, .int (nI 21)), (1, .long 0), (0, .ref h)]) C.x C.b dL_gaskets_651 hl (k := 0) rfl (by decide) (by decide) rfl (fun ls hl => ?_)
  refine lv_goto (tgt := 625) C.x C.b dL_gaskets_654 (by decide) ?_
  refine lv_iload_n C.x C.b dL_gaskets_625 rfl (lv_at hl 0 rfl) ?_
  refine lv_sipush (v := (nI 200)) C.x C.b dL_gaskets_626 (by decide) ?_
  refine lv_icmp_ge (tgt := 657) C.x C.b dL_gaskets_629 (by decide) (fun q9 => absurd q9 (by decide)) (fun _ => ?_)
  refine lv_aload_n C.x C.b dL_gaskets_632 rfl (lv_at hl 2 rfl) ?_
  refine lv_bipush (v := (nI 10)) C.x C.b dL_gaskets_633 (by decide) ?_
  refine lv_iconst (v := (nI 0)) C.x C.b dL_gaskets_635 (by decide) ?_
  refine lv_iload_n C.x C.b dL_gaskets_636 rfl (lv_at hl 0 rfl) ?_
  refine lv_iconst (v := (nI 4)) C.x C.b dL_gaskets_637 (by decide) ?_
  refine lv_irem C.x C.b dL_gaskets_638 (by decide) ?_
  refine k_topi (y := (nI 1)) (by decide) ?_
  refine lv_iconst (v := (nI 0)) C.x C.b dL_gaskets_639 (by decide) ?_
  refine lv_iconst (v := (nI 0)) C.x C.b dL_gaskets_640 (by decide) ?_
  refine k_actJ (As := [.ref h, .int (nI 10), .int (nI 0), .int (nI 1), .int (nI 0), .int (nI 0)]) (rest := []) (c2 := 5084) (s2 := 41080) (v := 63536130986) (m1 := _) C hX (act_10 hI.hd (nI 0) (nI 1) (nI 0) (nI 0) (iop_turn hst hI (nI 0) (nI 1))) (ev_turn 0 1 (by decide +kernel) (by decide) (by decide) (by decide +kernel) (by decide) rfl) (rfl) (gl_up inv_L_act) rfl hl.1 rfl (by decide) dL_gaskets_641 ⟨Nat.le_of_ble_eq_true rfl, Nat.le_of_ble_eq_true rfl⟩ ⟨Nat.le_of_ble_eq_true rfl, Nat.le_of_ble_eq_true rfl⟩ rfl rfl (fun f H locs hX hI => ?_)
  have hI : Inv G h f hS_gaskets_36 := hI.cg (hL [21984412383, 63536130986, 2632104062, 7606921923, 4, 1, 1, 0, 3, 6, 7, (-2), (-6), 11, 14, 15, 0, 0, 0, 0, 0, 0, 0, 0, 0, 0, 0, 0, 0, 0, 0, 0]) (hL [(-1), 2, 2, 3, 0, 0, 1, 1, (-2), 3, 6, 7, (-6), 11, 14, 15, 0, 0, 0, 0, 0, 0, 0, 0, 0, 0, 0, 0, 0, 0, 0, 0]) (hL [1, 0, 0, 1]) (hE [0, 0, 0, 0, 0, 0, 0, 0, 0, 0]) (hE [0, 0, 0, 0, 0, 0, 0, 0, 0, 0]) ⟨by decide +kernel, by decide +kernel, by decide +kernel⟩
  refine lv_ldc2 (v := (-7000003)) C.x C.b C.ow (C.ts _ (List.mem_cons_of_mem _ lkC_4)) dL_gaskets_644 ?_
  refine k_lcmp_eq (tgt := 657) C.x C.b dL_gaskets_647 dL_gaskets_648 (by decide) (fun q9 => absurd q9 (by decide)) (fun _ => ?_)
  refine lv_iinc (v := (nI 22)) (lv' := [(3, .int (nI 22)), (1, .long 0), (0, .ref h)]) C.x C.b dL_gaskets_651 hl (k := 0) rfl (by decide) (by decide) rfl (fun ls hl => ?_)
  refine lv_goto (tgt := 625) C.x C.b dL_gaskets_654 (by decide) ?_
  refine lv_iload_n C.x C.b dL_gaskets_625 rfl (lv_at hl 0 rfl) ?_
  refine lv_sipush (v := (nI 200)) C.x C.b dL_gaskets_626 (by decide) ?_
  refine lv_icmp_ge (tgt := 657) C.x C.b dL_gaskets_629 (by decide) (fun q9 => absurd q9 (by decide)) (fun _ => ?_)
  refine lv_aload_n C.x C.b dL_gaskets_632 rfl (lv_at hl 2 rfl) ?_
  refine lv_bipush (v := (nI 10)) C.x C.b dL_gaskets_633 (by decide) ?_
  refine lv_iconst (v := (nI 0)) C.x C.b dL_gaskets_635 (by decide) ?_
  refine lv_iload_n C.x C.b dL_gaskets_636 rfl (lv_at hl 0 rfl) ?_
  refine lv_iconst (v := (nI 4)) C.x C.b dL_gaskets_637 (by decide) ?_
  refine lv_irem C.x C.b dL_gaskets_638 (by decide) ?_
  refine k_topi (y := (nI 2)) (by decide) ?_
  refine lv_iconst (v := (nI 0)) C.x C.b dL_gaskets_639 (by decide) ?_
  refine lv_iconst (v := (nI 0)) C.x C.b dL_gaskets_640 (by decide) ?_
  refine k_actJ (As := [.ref h, .int (nI 10), .int (nI 0), .int (nI 2), .int (nI 0), .int (nI 0)]) (rest := []) (c2 := 5092) (s2 := 41144) (v := 183622826522) (m1 := _) C hX (act_10 hI.hd (nI 0) (nI 2) (nI 0) (nI 0) (iop_turn hst hI (nI 0) (nI 2))) (ev_turn 0 2 (by decide +kernel) (by decide) (by decide) (by decide +kernel) (by decide) rfl) (rfl) (gl_up inv_L_act) rfl hl.1 rfl (by decide) dL_gaskets_641 ⟨Nat.le_of_ble_eq_true rfl, Nat.le_of_ble_eq_true rfl⟩ ⟨Nat.le_of_ble_eq_true rfl, Nat.le_of_ble_eq_true rfl⟩ rfl rfl (fun f H locs hX hI => ?_)
  have hI : Inv G h f hS_gaskets_37 := hI.cg (hL [21984412383, 63536130986, 183622826522, 7606921923, 4, 1, 1, 0, 3, 6, 7, (-2), (-6), 11, 14, 15, 0, 0, 0, 0, 0, 0, 0, 0, 0, 0, 0, 0, 0, 0, 0, 0]) (hL [(-1), 2, 2, 3, 0, 0, 1, 1, (-2), 3, 6, 7, (-6), 11, 14, 15, 0, 0, 0, 0, 0, 0, 0, 0, 0, 0, 0, 0, 0, 0, 0, 0]) (hL [1, 0, 0, 1]) (hE [0, 0, 0, 0, 0, 0, 0, 0, 0, 0]) (hE [0, 0, 0, 0, 0, 0, 0, 0, 0, 0]) ⟨by decide +kernel, by decide +kernel, by decide +kernel⟩
  refine lv_ldc2 (v := (-7000003)) C.x C.b C.ow (C.ts _ (List.mem_cons_of_mem _ lkC_4)) dL_gaskets_644 ?_
  refine k_lcmp_eq (tgt := 657) C.x C.b dL_gaskets_647 dL_gaskets_648 (by decide) (fun q9 => absurd q9 (by decide)) (fun _ => ?_)
  refine lv_iinc (v := (nI 23)) (lv' := [(3, .int (nI 23)), (1, .long 0), (0, .ref h)]) C.x C.b dL_gaskets_651 hl (k := 0) rfl (by decide) (by decide) rfl (fun ls hl => ?_)
  refine lv_goto (tgt := 625) C.x C.b dL_gaskets_654 (by decide) ?_
  refine lv_iload_n C.x C.b dL_gaskets_625 rfl (lv_at hl 0 rfl) ?_
  refine lv_sipush (v := (nI 200)) C.x C.b dL_gaskets_626 (by decide) ?_
  refine lv_icmp_ge (tgt := 657) C.x C.b dL_gaskets_629 (by decide) (fun q9 => absurd q9 (by decide)) (fun _ => ?_)
  refine lv_aload_n C.x C.b dL_gaskets_632 rfl (lv_at hl 2 rfl) ?_
  refine lv_bipush (v := (nI 10)) C.x C.b dL_gaskets_633 (by decide) ?_
  refine lv_iconst (v := (nI 0)) C.x C.b dL_gaskets_635 (by decide) ?_
  refine lv_iload_n C.x C.b dL_gaskets_636 rfl (lv_at hl 0 rfl) ?_
  refine lv_iconst (v := (nI 4)) C.x C.b dL_gaskets_637 (by decide) ?_
  refine lv_irem C.x C.b dL_gaskets_638 (by decide) ?_
  refine k_topi (y := (nI 3)) (by decide) ?_
  refine lv_iconst (v := (nI 0)) C.x C.b dL_gaskets_639 (by decide) ?_
  refine lv_iconst (v := (nI 0)) C.x C.b dL_gaskets_640 (by decide) ?_
  refine k_actJ (As := [.ref h, .int (nI 10), .int (nI 0), .int (nI 3), .int (nI 0), .int (nI 0)]) (rest := []) (c2 := 5100) (s2 := 41208) (v := 530679817859) (m1 := _) C hX (act_10 hI.hd (nI 0) (nI 3) (nI 0) (nI 0) (iop_turn hst hI (nI 0) (nI 3))) (ev_turn 0 3 (by decide +kernel) (by decide) (by decide) (by decide +kernel) (by decide) rfl) (rfl) (gl_up inv_L_act) rfl hl.1 rfl (by decide) dL_gaskets_641 ⟨Nat.le_of_ble_eq_true rfl, Nat.le_of_ble_eq_true rfl⟩ ⟨Nat.le_of_ble_eq_true rfl, Nat.le_of_ble_eq_true rfl⟩ rfl rfl (fun f H locs hX hI => ?_)
  have hI : Inv G h f hS_gaskets_38 := hI.cg (hL [21984412383, 63536130986, 183622826522, 530679817859, 4, 1, 1, 0, 3, 6, 7, (-2), (-6), 11, 14, 15, 0, 0, 0, 0, 0, 0, 0, 0, 0, 0, 0, 0, 0, 0, 0, 0]) (hL [(-1), 2, 2, 3, 0, 0, 1, 1, (-2), 3, 6, 7, (-6), 11, 14, 15, 0, 0, 0, 0, 0, 0, 0, 0, 0, 0, 0, 0, 0, 0, 0, 0]) (hL [1, 0, 0, 1]) (hE [0, 0, 0, 0, 0, 0, 0, 0, 0, 0]) (hE [0, 0, 0, 0, 0, 0, 0, 0, 0, 0]) ⟨by decide +kernel, by decide +kernel, by decide +kernel⟩
  refine lv_ldc2 (v := (-7000003)) C.x C.b C.ow (C.ts _ (List.mem_cons_of_mem _ lkC_4)) dL_gaskets_644 ?_
  refine k_lcmp_eq (tgt := 657) C.x C.b dL_gaskets_647 dL_gaskets_648 (by decide) (fun q9 => absurd q9 (by decide)) (fun _ => ?_)
  refine lv_iinc (v := (nI 24)) (lv' := [(3, .int (nI 24)), (1, .long 0), (0, .ref h)]) C.x C.b dL_gaskets_651 hl (k := 0) rfl (by decide) (by decide) rfl (fun ls hl => ?_)
  refine lv_goto (tgt := 625) C.x C.b dL_gaskets_654 (by decide) ?_
  refine lv_iload_n C.x C.b dL_gaskets_625 rfl (lv_at hl 0 rfl) ?_
  refine lv_sipush (v := (nI 200)) C.x C.b dL_gaskets_626 (by decide) ?_
  refine lv_icmp_ge (tgt := 657) C.x C.b dL_gaskets_629 (by decide) (fun q9 => absurd q9 (by decide)) (fun _ => ?_)
  refine lv_aload_n C.x C.b dL_gaskets_632 rfl (lv_at hl 2 rfl) ?_
  refine lv_bipush (v := (nI 10)) C.x C.b dL_gaskets_633 (by decide) ?_
  refine lv_iconst (v := (nI 0)) C.x C.b dL_gaskets_635 (by decide) ?_
  refine lv_iload_n C.x C.b dL_gaskets_636 rfl (lv_at hl 0 rfl) ?_
  refine lv_iconst (v := (nI 4)) C.x C.b dL_gaskets_637 (by decide) ?_
  refine lv_irem C.x C.b dL_gaskets_638 (by decide) ?_
  refine k_topi (y := (nI 0)) (by decide) ?_
  refine lv_iconst (v := (nI 0)) C.x C.b dL_gaskets_639 (by decide) ?_
  refine lv_iconst (v := (nI 0)) C.x C.b dL_gaskets_640 (by decide) ?_
  refine k_actJ (As := [.ref h, .int (nI 10), .int (nI 0), .int (nI 0), .int (nI 0), .int (nI 0)]) (rest := []) (c2 := 5108) (s2 := 41272) (v := 1533693138351) (m1 := _) C hX (act_10 hI.hd (nI 0) (nI 0) (nI 0) (nI 0) (iop_turn hst hI (nI 0) (nI 0))) (ev_turn 0 0 (by decide +kernel) (by decide) (by decide) (by decide +kernel) (by decide) rfl) (rfl) (gl_up inv_L_act) rfl hl.1 rfl (by decide) dL_gaskets_641 ⟨Nat.le_of_ble_eq_true rfl, Nat.le_of_ble_eq_true rfl⟩ ⟨Nat.le_of_ble_eq_true rfl, Nat.le_of_ble_eq_true rfl⟩ rfl rfl (fun f H locs hX hI => ?_)
  have hI : Inv G h f hS_gaskets_39 := hI.cg (hL [1533693138351, 63536130986, 183622826522, 530679817859, 4, 1, 1, 0, 3, 6, 7, (-2), (-6), 11, 14, 15, 0, 0, 0, 0, 0, 0, 0, 0, 0, 0, 0, 0, 0, 0, 0, 0]) (hL [(-1), 2, 2, 3, 0, 0, 1, 1, (-2), 3, 6, 7, (-6), 11, 14, 15, 0, 0, 0, 0, 0, 0, 0, 0, 0, 0, 0, 0, 0, 0, 0, 0]) (hL [1, 0, 0, 1]) (hE [0, 0, 0, 0, 0, 0, 0, 0, 0, 0]) (hE [0, 0, 0, 0, 0, 0, 0, 0, 0, 0]) ⟨by decide +kernel, by decide +kernel, by decide +kernel⟩
  refine lv_ldc2 (v := (-7000003)) C.x C.b C.ow (C.ts _ (List.mem_cons_of_mem _ lkC_4)) dL_gaskets_644 ?_
  refine k_lcmp_eq (tgt := 657) C.x C.b dL_gaskets_647 dL_gaskets_648 (by decide) (fun q9 => absurd q9 (by decide)) (fun _ => ?_)
  refine lv_iinc (v := (nI 25)) (lv' := [(3, .int (nI 25)), (1, .long 0), (0, .ref h)]) C.x C.b dL_gaskets_651 hl (k := 0) rfl (by decide) (by decide) rfl (fun ls hl => ?_)
  refine lv_goto (tgt := 625) C.x C.b dL_gaskets_654 (by decide) ?_
  refine lv_iload_n C.x C.b dL_gaskets_625 rfl (lv_at hl 0 rfl) ?_
  refine lv_sipush (v := (nI 200)) C.x C.b dL_gaskets_626 (by decide) ?_
  refine lv_icmp_ge (tgt := 657) C.x C.b dL_gaskets_629 (by decide) (fun q9 => absurd q9 (by decide)) (fun _ => ?_)
  refine lv_aload_n C.x C.b dL_gaskets_632 rfl (lv_at hl 2 rfl) ?_
  refine lv_bipush (v := (nI 10)) C.x C.b dL_gaskets_633 (by decide) ?_
  refine lv_iconst (v := (nI 0)) C.x C.b dL_gaskets_635 (by decide) ?_
  refine lv_iload_n C.x C.b dL_gaskets_636 rfl (lv_at hl 0 rfl) ?_
  refine lv_iconst (v := (nI 4)) C.x C.b dL_gaskets_637 (by decide) ?_
  refine lv_irem C.x C.b dL_gaskets_638 (by decide) ?_
  refine k_topi (y := (nI 1)) (by decide) ?_
  refine lv_iconst (v := (nI 0)) C.x C.b dL_gaskets_639 (by decide) ?_
  refine lv_iconst (v := (nI 0)) C.x C.b dL_gaskets_640 (by decide) ?_
  refine k_actJ (As := [.ref h, .int (nI 10), .int (nI 0), .int (nI 1), .int (nI 0), .int (nI 0)]) (rest := []) (c2 := 5116) (s2 := 41336) (v := 4432455434478) (m1 := _) C hX (act_10 hI.hd (nI 0) (nI 1) (nI 0) (nI 0) (iop_turn hst hI (nI 0) (nI 1))) (ev_turn 0 1 (by decide +kernel) (by decide) (by decide) (by decide +kernel) (by decide) rfl) (rfl) (gl_up inv_L_act) rfl hl.1 rfl (by decide) dL_gaskets_641 ⟨Nat.le_of_ble_eq_true rfl, Nat.le_of_ble_eq_true rfl⟩ ⟨Nat.le_of_ble_eq_true rfl, Nat.le_of_ble_eq_true rfl⟩ rfl rfl (fun f H locs hX hI => ?_)
  have hI : Inv G h f hS_gaskets_40 := hI.cg (hL [1533693138351, 4432455434478, 183622826522, 530679817859, 4, 1, 1, 0, 3, 6, 7, (-2), (-6), 11, 14, 15, 0, 0, 0, 0, 0, 0, 0, 0, 0, 0, 0, 0, 0, 0, 0, 0]) (hL [(-1), 2, 2, 3, 0, 0, 1, 1, (-2), 3, 6, 7, (-6), 11, 14, 15, 0, 0, 0, 0, 0, 0, 0, 0, 0, 0, 0, 0, 0, 0, 0, 0]) (hL [1, 0, 0, 1]) (hE [0, 0, 0, 0, 0, 0, 0, 0, 0, 0]) (hE [0, 0, 0, 0, 0, 0, 0, 0, 0, 0]) ⟨by decide +kernel, by decide +kernel, by decide +kernel⟩
  refine lv_ldc2 (v := (-7000003)) C.x C.b C.ow (C.ts _ (List.mem_cons_of_mem _ lkC_4)) dL_gaskets_644 ?_
  refine k_lcmp_eq (tgt := 657) C.x C.b dL_gaskets_647 dL_gaskets_648 (by decide) (fun q9 => absurd q9 (by decide)) (fun _ => ?_)
  refine lv_iinc (v := (nI 26)) (lv' := [(3, .int (nI 26)), (1, .long 0), (0, .ref h)]) C.x C.b dL_gaskets_651 hl (k := 0) rfl (by decide) (by decide) rfl (fun ls hl => ?_)
  refine lv_goto (tgt := 625) C.x C.b dL_gaskets_654 (by decide) ?_
  refine lv_iload_n C.x C.b dL_gaskets_625 rfl (lv_at hl 0 rfl) ?_
  refine lv_sipush (v := (nI 200)) C.x C.b dL_gaskets_626 (by decide) ?_
  refine lv_icmp_ge (tgt := 657) C.x C.b dL_gaskets_629 (by decide) (fun q9 => absurd q9 (by decide)) (fun _ => ?_)
  refine lv_aload_n C.x C.b dL_gaskets_632 rfl (lv_at hl 2 rfl) ?_
  refine lv_bipush (v := (nI 10)) C.x C.b dL_gaskets_633 (by decide) ?_
  refine lv_iconst (v := (nI 0)) C.x C.b dL_gaskets_635 (by decide) ?_
  refine lv_iload_n C.x C.b dL_gaskets_636 rfl (lv_at hl 0 rfl) ?_
  refine lv_iconst (v := (nI 4)) C.x C.b dL_gaskets_637 (by decide) ?_
  refine lv_irem C.x C.b dL_gaskets_638 (by decide) ?_
  refine k_topi (y := (nI 2)) (by decide) ?_
  refine lv_iconst (v := (nI 0)) C.x C.b dL_gaskets_639 (by decide) ?_
  refine lv_iconst (v := (nI 0)) C.x C.b dL_gaskets_640 (by decide) ?_
  refine k_actJ (As := [.ref h, .int (nI 10), .int (nI 0), .int (nI 2), .int (nI 0), .int (nI 0)]) (rest := []) (c2 := 5124) (s2 := 41400) (v := 12810033954854) (m1 := _) C hX (act_10 hI.hd (nI 0) (nI 2) (nI 0) (nI 0) (iop_turn hst hI (nI 0) (nI 2))) (ev_turn 0 2 (by decide +kernel) (by decide) (by decide) (by decide +kernel) (by decide) rfl) (rfl) (gl_up inv_L_act) rfl hl.1 rfl (by decide) dL_gaskets_641 ⟨Nat.le_of_ble_eq_true rfl, Nat.le_of_ble_eq_true rfl⟩ ⟨Nat.le_of_ble_eq_true rfl, Nat.le_of_ble_eq_true rfl⟩ rfl rfl (fun f H locs hX hI => ?_)
  have hI : Inv G h f hS_gaskets_41 := hI.cg (hL [1533693138351, 4432455434478, 12810033954854, 530679817859, 4, 1, 1, 0, 3, 6, 7, (-2), (-6), 11, 14, 15, 0, 0, 0, 0, 0, 0, 0, 0, 0, 0, 0, 0, 0, 0, 0, 0]) (hL [(-1), 2, 2, 3, 0, 0, 1, 1, (-2), 3, 6, 7, (-6), 11, 14, 15, 0, 0, 0, 0, 0, 0, 0, 0, 0, 0, 0, 0, 0, 0, 0, 0]) (hL [1, 0, 0, 1]) (hE [0, 0, 0, 0, 0, 0, 0, 0, 0, 0]) (hE [0, 0, 0, 0, 0, 0, 0, 0, 0, 0]) ⟨by decide +kernel, by decide +kernel, by decide +kernel⟩
  refine lv_ldc2 (v := (-7000003)) C.x C.b C.ow (C.ts _ (List.mem_cons_of_mem _ lkC_4)) dL_gaskets_644 ?_
  refine k_lcmp_eq (tgt := 657) C.x C.b dL_gaskets_647 dL_gaskets_648 (by decide) (fun q9 => absurd q9 (by decide)) (fun _ => ?_)
  refine lv_iinc (v := (nI 27)) (lv' := [(3, .int (nI 27)), (1, .long 0), (0, .ref h)]) C.x C.b dL_gaskets_651 hl (k := 0) rfl (by decide) (by decide) rfl (fun ls hl => ?_)
  refine lv_goto (tgt := 625) C.x C.b dL_gaskets_654 (by decide) ?_
  refine lv_iload_n C.x C.b dL_gaskets_625 rfl (lv_at hl 0 rfl) ?_
  refine lv_sipush (v := (nI 200)) C.x C.b dL_gaskets_626 (by decide) ?_
  refine lv_icmp_ge (tgt := 657) C.x C.b dL_gaskets_629 (by decide) (fun q9 => absurd q9 (by decide)) (fun _ => ?_)
  refine lv_aload_n C.x C.b dL_gaskets_632 rfl (lv_at hl 2 rfl) ?_
  refine lv_bipush (v := (nI 10)) C.x C.b dL_gaskets_633 (by decide) ?_
  refine lv_iconst (v := (nI 0)) C.x C.b dL_gaskets_635 (by decide) ?_
  refine lv_iload_n C.x C.b dL_gaskets_636 rfl (lv_at hl 0 rfl) ?_
  refine lv_iconst (v := (nI 4)) C.x C.b dL_gaskets_637 (by decide) ?_
  refine lv_irem C.x C.b dL_gaskets_638 (by decide) ?_
  refine k_topi (y := (nI 3)) (by decide) ?_
  refine lv_iconst (v := (nI 0)) C.x C.b dL_gaskets_639 (by decide) ?_
  refine lv_iconst (v := (nI 0)) C.x C.b dL_gaskets_640 (by decide) ?_
  refine k_actJ (As := [.ref h, .int (nI 10), .int (nI 0), .int (nI 3), .int (nI 0), .int (nI 0)]) (rest := []) (c2 := 5132) (s2 := 41464) (v := 37021685237507) (m1 := _) C hX (act_10 hI.hd (nI 0) (nI 3) (nI 0) (nI 0) (iop_turn hst hI (nI 0) (nI 3))) (ev_turn 0 3 (by decide +kernel) (by decide) (by decide) (by decide +kernel) (by decide) rfl) (rfl) (gl_up inv_L_act) rfl hl.1 rfl (by decide) dL_gaskets_641 ⟨Nat.le_of_ble_eq_true rfl, Nat.le_of_ble_eq_true rfl⟩ ⟨Nat.le_of_ble_eq_true rfl, Nat.le_of_ble_eq_true rfl⟩ rfl rfl (fun f H locs hX hI => ?_)
  have hI : Inv G h f hS_gaskets_42 := hI.cg (hL [1533693138351, 4432455434478, 12810033954854, 37021685237507, 4, 1, 1, 0, 3, 6, 7, (-2), (-6), 11, 14, 15, 0, 0, 0, 0, 0, 0, 0, 0, 0, 0, 0, 0, 0, 0, 0, 0]) (hL [(-1), 2, 2, 3, 0, 0, 1, 1, (-2), 3, 6, 7, (-6), 11, 14, 15, 0, 0, 0, 0, 0, 0, 0, 0, 0, 0, 0, 0, 0, 0, 0, 0]) (hL [1, 0, 0, 1]) (hE [0, 0, 0, 0, 0, 0, 0, 0, 0, 0]) (hE [0, 0, 0, 0, 0, 0, 0, 0, 0, 0]) ⟨by decide +kernel, by decide +kernel, by decide +kernel⟩
  refine lv_ldc2 (v := (-7000003)) C.x C.b C.ow (C.ts _ (List.mem_cons_of_mem _ lkC_4)) dL_gaskets_644 ?_
  refine k_lcmp_eq (tgt := 657) C.x C.b dL_gaskets_647 dL_gaskets_648 (by decide) (fun q9 => absurd q9 (by decide)) (fun _ => ?_)
  refine lv_iinc (v := (nI 28)) (lv' := [(3, .int (nI 28)), (1, .long 0), (0, .ref h)]) C.x C.b dL_gaskets_651 hl (k := 0) rfl (by decide) (by decide) rfl (fun ls hl => ?_)
  refine lv_goto (tgt := 625) C.x C.b dL_gaskets_654 (by decide) ?_
  refine lv_iload_n C.x C.b dL_gaskets_625 rfl (lv_at hl 0 rfl) ?_
  refine lv_sipush (v := (nI 200)) C.x C.b dL_gaskets_626 (by decide) ?_
  refine lv_icmp_ge (tgt := 657) C.x C.b dL_gaskets_629 (by decide) (fun q9 => absurd q9 (by decide)) (fun _ => ?_)
  refine lv_aload_n C.x C.b dL_gaskets_632 rfl (lv_at hl 2 rfl) ?_
  refine lv_bipush (v := (nI 10)) C.x C.b dL_gaskets_633 (by decide) ?_
  refine lv_iconst (v := (nI 0)) C.x C.b dL_gaskets_635 (by decide) ?_
  refine lv_iload_n C.x C.b dL_gaskets_636 rfl (lv_at hl 0 rfl) ?_
  refine lv_iconst (v := (nI 4)) C.x C.b dL_gaskets_637 (by decide) ?_
  refine lv_irem C.x C.b dL_gaskets_638 (by decide) ?_
  refine k_topi (y := (nI 0)) (by decide) ?_
  refine lv_iconst (v := (nI 0)) C.x C.b dL_gaskets_639 (by decide) ?_
  refine lv_iconst (v := (nI 0)) C.x C.b dL_gaskets_640 (by decide) ?_
  refine k_actJ (As := [.ref h, .int (nI 10), .int (nI 0), .int (nI 0), .int (nI 0), .int (nI 0)]) (rest := []) (c2 := 5140) (s2 := 41528) (v := 106994656115327) (m1 := _) C hX (act_10 hI.hd (nI 0) (nI 0) (nI 0) (nI 0) (iop_turn hst hI (nI 0) (nI 0))) (ev_turn 0 0 (by decide +kernel) (by decide) (by decide) (by decide +kernel) (by decide) rfl) (rfl) (gl_up inv_L_act) rfl hl.1 rfl (by decide) dL_gaskets_641 ⟨Nat.le_of_ble_eq_true rfl, Nat.le_of_ble_eq_true rfl⟩ ⟨Nat.le_of_ble_eq_true rfl, Nat.le_of_ble_eq_true rfl⟩ rfl rfl (fun f H locs hX hI => ?_)
  have hI : Inv G h f hS_gaskets_43 := hI.cg (hL [106994656115327, 4432455434478, 12810033954854, 37021685237507, 4, 1, 1, 0, 3, 6, 7, (-2), (-6), 11, 14, 15, 0, 0, 0, 0, 0, 0, 0, 0, 0, 0, 0, 0, 0, 0, 0, 0]) (hL [(-1), 2, 2, 3, 0, 0, 1, 1, (-2), 3, 6, 7, (-6), 11, 14, 15, 0, 0, 0, 0, 0, 0, 0, 0, 0, 0, 0, 0, 0, 0, 0, 0]) (hL [1, 0, 0, 1]) (hE [0, 0, 0, 0, 0, 0, 0, 0, 0, 0]) (hE [0, 0, 0, 0, 0, 0, 0, 0, 0, 0]) ⟨by decide +kernel, by decide +kernel, by decide +kernel⟩
  refine lv_ldc2 (v := (-7000003)) C.x C.b C.ow (C.ts _ (List.mem_cons_of_mem _ lkC_4)) dL_gaskets_644 ?_
  refine k_lcmp_eq (tgt := 657) C.x C.b dL_gaskets_647 dL_gaskets_648 (by decide) (fun q9 => absurd q9 (by decide)) (fun _ => ?_)
  refine lv_iinc (v := (nI 29)) (lv' := [(3, .int (nI 29)), (1, .long 0), (0, .ref h)]) C.x C.b dL_gaskets_651 hl (k := 0) rfl (by decide) (by decide) rfl (fun ls hl => ?_)
  refine lv_goto (tgt := 625) C.x C.b dL_gaskets_654 (by decide) ?_
  refine lv_iload_n C.x C.b dL_gaskets_625 rfl (lv_at hl 0 rfl) ?_
  refine lv_sipush (v := (nI 200)) C.x C.b dL_gaskets_626 (by decide) ?_
  refine lv_icmp_ge (tgt := 657) C.x C.b dL_gaskets_629 (by decide) (fun q9 => absurd q9 (by decide)) (fun _ => ?_)
  refine lv_aload_n C.x C.b dL_gaskets_632 rfl (lv_at hl 2 rfl) ?_
  refine lv_bipush (v := (nI 10)) C.x C.b dL_gaskets_633 (by decide) ?_
  refine lv_iconst (v := (nI 0)) C.x C.b dL_gaskets_635 (by decide) ?_
  refine lv_iload_n C.x C.b dL_gaskets_636 rfl (lv_at hl 0 rfl) ?_
  refine lv_iconst (v := (nI 4)) C.x C.b dL_gaskets_637 (by decide) ?_
  refine lv_irem C.x C.b dL_gaskets_638 (by decide) ?_
  refine k_topi (y := (nI 1)) (by decide) ?_
  refine lv_iconst (v := (nI 0)) C.x C.b dL_gaskets_639 (by decide) ?_
  refine lv_iconst (v := (nI 0)) C.x C.b dL_gaskets_640 (by decide) ?_
  refine k_actJ (As := [.ref h, .int (nI 10), .int (nI 0), .int (nI 1), .int (nI 0), .int (nI 0)]) (rest := []) (c2 := 5148) (s2 := 41592) (v := 309220295180898) (m1 := _) C hX (act_10 hI.hd (nI 0) (nI 1) (nI 0) (nI 0) (iop_turn hst hI (nI 0) (nI 1))) (ev_turn 0 1 (by decide +kernel) (by decide) (by decide) (by decide +kernel) (by decide) rfl) (rfl) (gl_up inv_L_act) rfl hl.1 rfl (by decide) dL_gaskets_641 ⟨Nat.le_of_ble_eq_true rfl, Nat.le_of_ble_eq_true rfl⟩ ⟨Nat.le_of_ble_eq_true rfl, Nat.le_of_ble_eq_true rfl⟩ rfl rfl (fun f H locs hX hI => ?_)
  have hI : Inv G h f hS_gaskets_44 := hI.cg (hL [106994656115327, 309220295180898, 12810033954854, 37021685237507, 4, 1, 1, 0, 3, 6, 7, (-2), (-6), 11, 14, 15, 0, 0, 0, 0, 0, 0, 0, 0, 0, 0, 0, 0, 0, 0, 0, 0]) (hL [(-1), 2, 2, 3, 0, 0, 1, 1, (-2), 3, 6, 7, (-6), 11, 14, 15, 0, 0, 0, 0, 0, 0, 0, 0, 0, 0, 0, 0, 0, 0, 0, 0]) (hL [1, 0, 0, 1]) (hE [0, 0, 0, 0, 0, 0, 0, 0, 0, 0]) (hE [0, 0, 0, 0, 0, 0, 0, 0, 0, 0]) ⟨by decide +kernel, by decide +kernel, by decide +kernel⟩
  refine lv_ldc2 (v := (-7000003)) C.x C.b C.ow (C.ts _ (List.mem_cons_of_mem _ lkC_4)) dL_gaskets_644 ?_
  refine k_lcmp_eq (tgt := 657) C.x C.b dL_gaskets_647 dL_gaskets_648 (by decide) (fun q9 => absurd q9 (by decide)) (fun _ => ?_)
  refine lv_iinc (v := (nI 30)) (lv' := [(3, .int (nI 30)), (1, .long 0), (0, .ref h)]) C.x C.b dL_gaskets_651 hl (k := 0) rfl (by decide) (by decide) rfl (fun ls hl => ?_)
  refine lv_goto (tgt := 625) C.x C.b dL_gaskets_654 (by decide) ?_
  refine lv_iload_n C.x C.b dL_gaskets_625 rfl (lv_at hl 0 rfl) ?_
  refine lv_sipush (v := (nI 200)) C.x C.b dL_gaskets_626 (by decide) ?_
  refine lv_icmp_ge (tgt := 657) C.x C.b dL_gaskets_629 (by decide) (fun q9 => absurd q9 (by decide)) (fun _ => ?_)
  refine lv_aload_n C.x C.b dL_gaskets_632 rfl (lv_at hl 2 rfl) ?_
  refine lv_bipush (v := (nI 10)) C.x C.b dL_gaskets_633 (by decide) ?_
  refine lv_iconst (v := (nI 0)) C.x C.b dL_gaskets_635 (by decide) ?_
  refine lv_iload_n C.x C.b dL_gaskets_636 rfl (lv_at hl 0 rfl) ?_
  refine lv_iconst (v := (nI 4)) C.x C.b dL_gaskets_637 (by decide) ?_
  refine lv_irem C.x C.b dL_gaskets_638 (by decide) ?_
  refine k_topi (y := (nI 2)) (by decide) ?_
  refine lv_iconst (v := (nI 0)) C.x C.b dL_gaskets_639 (by decide) ?_
  refine lv_iconst (v := (nI 0)) C.x C.b dL_gaskets_640 (by decide) ?_
  refine k_actJ (As := [.ref h, .int (nI 10), .int (nI 0), .int (nI 2), .int (nI 0), .int (nI 0)]) (rest := []) (c2 := 5156) (s2 := 41656) (v := 893663239112610) (m1 := _) C hX (act_10 hI.hd (nI 0) (nI 2) (nI 0) (nI 0) (iop_turn hst hI (nI 0) (nI 2))) (ev_turn 0 2 (by decide +kernel) (by decide) (by decide) (by decide +kernel) (by decide) rfl) (rfl) (gl_up inv_L_act) rfl hl.1 rfl (by decide) dL_gaskets_641 ⟨Nat.le_of_ble_eq_true rfl, Nat.le_of_ble_eq_true rfl⟩ ⟨Nat.le_of_ble_eq_true rfl, Nat.le_of_ble_eq_true rfl⟩ rfl rfl (fun f H locs hX hI => ?_)
  have hI : Inv G h f hS_gaskets_45 := hI.cg (hL [106994656115327, 309220295180898, 893663239112610, 37021685237507, 4, 1, 1, 0, 3, 6, 7, (-2), (-6), 11, 14, 15, 0, 0, 0, 0, 0, 0, 0, 0, 0, 0, 0, 0, 0, 0, 0, 0]) (hL [(-1), 2, 2, 3, 0, 0, 1, 1, (-2), 3, 6, 7, (-6), 11, 14, 15, 0, 0, 0, 0, 0, 0, 0, 0, 0, 0, 0, 0, 0, 0, 0, 0]) (hL [1, 0, 0, 1]) (hE [0, 0, 0, 0, 0, 0, 0, 0, 0, 0]) (hE [0, 0, 0, 0, 0, 0, 0, 0, 0, 0]) ⟨by decide +kernel, by decide +kernel, by decide +kernel⟩
  refine lv_ldc2 (v := (-7000003)) C.x C.b C.ow (C.ts _ (List.mem_cons_of_mem _ lkC_4)) dL_gaskets_644 ?_
  refine k_lcmp_eq (tgt := 657) C.x C.b dL_gaskets_647 dL_gaskets_648 (by decide) (fun q9 => absurd q9 (by decide)) (fun _ => ?_)
  refine lv_iinc (v := (nI 31)) (lv' := [(3, .int (nI 31)), (1, .long 0), (0, .ref h)]) C.x C.b dL_gaskets_651 hl (k := 0) rfl (by decide) (by decide) rfl (fun ls hl => ?_)
  refine lv_goto (tgt := 625) C.x C.b dL_gaskets_654 (by decide) ?_
  refine lv_iload_n C.x C.b dL_gaskets_625 rfl (lv_at hl 0 rfl) ?_
  refine lv_sipush (v := (nI 200)) C.x C.b dL_gaskets_626 (by decide) ?_
  refine lv_icmp_ge (tgt := 657) C.x C.b dL_gaskets_629 (by decide) (fun q9 => absurd q9 (by decide)) (fun _ => ?_)
  refine lv_aload_n C.x C.b dL_gaskets_632 rfl (lv_at hl 2 rfl) ?_
  refine lv_bipush (v := (nI 10)) C.x C.b dL_gaskets_633 (by decide) ?_
  refine lv_iconst (v := (nI 0)) C.x C.b dL_gaskets_635 (by decide) ?_
  refine lv_iload_n C.x C.b dL_gaskets_636 rfl (lv_at hl 0 rfl) ?_
  refine lv_iconst (v := (nI 4)) C.x C.b dL_gaskets_637 (by decide) ?_
  refine lv_irem C.x C.b dL_gaskets_638 (by decide) ?_
  refine k_topi (y := (nI 3)) (by decide) ?_
  refine lv_iconst (v := (nI 0)) C.x C.b dL_gaskets_639 (by decide) ?_
  refine lv_iconst (v := (nI 0)) C.x C.b dL_gaskets_640 (by decide) ?_
  refine k_actJ (As := [.ref h, .int (nI 10), .int (nI 0), .int (nI 3), .int (nI 0), .int (nI 0)]) (rest := []) (c2 := 5164) (s2 := 41720) (v := (-7000003)) (m1 := hS_gaskets_45) C hX (act_10 hI.hd (nI 0) (nI 3) (nI 0) (nI 0) (iop_turn hst hI (nI 0) (nI 3))) (ev_turn_s 0 3 (by decide +kernel) (by decide) (by decide) (by decide +kernel)) (rfl) (gl_up inv_L_act) rfl hl.1 rfl (by decide) dL_gaskets_641 ⟨Nat.le_of_ble_eq_true rfl, Nat.le_of_ble_eq_true rfl⟩ ⟨Nat.le_of_ble_eq_true rfl, Nat.le_of_ble_eq_true rfl⟩ rfl rfl (fun f H locs hX hI => ?_)
  refine lv_ldc2 (v := (-7000003)) C.x C.b C.ow (C.ts _ (List.mem_cons_of_mem _ lkC_4)) dL_gaskets_644 ?_
  refine k_lcmp_eq (tgt := 657) C.x C.b dL_gaskets_647 dL_gaskets_648 (by decide) (fun _ => ?_) (fun q9 => absurd (by decide) q9)
  refine lv_iconst (v := (nI 0)) C.x C.b dL_gaskets_657 (by decide) ?_
  refine lv_istore (lv' := [(4, .int (nI 0)), (3, .int (nI 31)), (1, .long 0), (0, .ref h)]) C.x C.b dL_gaskets_658 hl (by decide) rfl (fun ls hl => ?_)
  refine lv_iload C.x C.b dL_gaskets_660 (lv_at hl 0 rfl) ?_
  refine lv_iconst (v := (nI 4)) C.x C.b dL_gaskets_662 (by decide) ?_
  refine lv_icmp_ge (tgt := 696) C.x C.b dL_gaskets_663 (by decide) (fun q9 => absurd q9 (by decide)) (fun _ => ?_)
  refine lv_aload_n C.x C.b dL_gaskets_666 rfl (lv_at hl 3 rfl) ?_
  refine lv_iconst (v := (nI 0)) C.x C.b dL_gaskets_667 (by decide) ?_
  refine lv_iload C.x C.b dL_gaskets_668 (lv_at hl 0 rfl) ?_
  refine k_cJ (As := [.int (nI 0), .int (nI 0)]) (rest := []) (c2 := 5172) (s2 := 41784) (v := 106994656115327) (m1 := hS_gaskets_45) C hX (iop_curvature hst hI (nI 0) (nI 0)) (ev_curvature (by decide +kernel) (by decide +kernel)) hI.hd (gl_up inv_X8_curvature) rfl ⟨rfl, hdA_X8_curvature⟩ (by decide) rfl hl.1 rfl (by decide) dL_gaskets_670 ⟨Nat.le_of_ble_eq_true rfl, Nat.le_of_ble_eq_true rfl⟩ ⟨Nat.le_of_ble_eq_true rfl, Nat.le_of_ble_eq_true rfl⟩ rfl rfl (fun f H locs hX hI => ?_)
  refine lv_lload_n C.x C.b dL_gaskets_673 rfl (lv_at hl 2 rfl) ?_
  refine k_lcmp_le (tgt := 688) C.x C.b dL_gaskets_674 dL_gaskets_675 (by decide) (fun q9 => absurd (by decide) q9) (fun _ => ?_)
  refine lv_aload_n C.x C.b dL_gaskets_678 rfl (lv_at hl 3 rfl) ?_
  refine lv_iconst (v := (nI 0)) C.x C.b dL_gaskets_679 (by decide) ?_
  refine lv_iload C.x C.b dL_gaskets_680 (lv_at hl 0 rfl) ?_
  refine k_cJ (As := [.int (nI 0), .int (nI 0)]) (rest := []) (c2 := 5180) (s2 := 41848) (v := 106994656115327) (m1 := hS_gaskets_45) C hX (iop_curvature hst hI (nI 0) (nI 0)) (ev_curvature (by decide +kernel) (by decide +kernel)) hI.hd (gl_up inv_X8_curvature) rfl ⟨rfl, hdA_X8_curvature⟩ (by decide) rfl hl.1 rfl (by decide) dL_gaskets_682 ⟨Nat.le_of_ble_eq_true rfl, Nat.le_of_ble_eq_true rfl⟩ ⟨Nat.le_of_ble_eq_true rfl, Nat.le_of_ble_eq_true rfl⟩ rfl rfl (fun f H locs hX hI => ?_)
  refine lv_goto (tgt := 689) C.x C.b dL_gaskets_685 (by decide) ?_
  refine lv_lstore_n (lv' := [(1, .long 106994656115327), (4, .int (nI 0)), (3, .int (nI 31)), (0, .ref h)]) C.x C.b dL_gaskets_689 rfl hl (by decide) rfl (fun ls hl => ?_)
  refine lv_iinc (v := (nI 1)) (lv' := [(4, .int (nI 1)), (1, .long 106994656115327), (3, .int (nI 31)), (0, .ref h)]) C.x C.b dL_gaskets_690 hl (k := 1) rfl (by decide) (by decide) rfl (fun ls hl => ?_)
  refine lv_goto (tgt := 660) C.x C.b dL_gaskets_693 (by decide) ?_
  refine lv_iload C.x C.b dL_gaskets_660 (lv_at hl 0 rfl) ?_
  refine lv_iconst (v := (nI 4)) C.x C.b dL_gaskets_662 (by decide) ?_
  refine lv_icmp_ge (tgt := 696) C.x C.b dL_gaskets_663 (by decide) (fun q9 => absurd q9 (by decide)) (fun _ => ?_)
  refine lv_aload_n C.x C.b dL_gaskets_666 rfl (lv_at hl 3 rfl) ?_
  refine lv_iconst (v := (nI 0)) C.x C.b dL_gaskets_667 (by decide) ?_
  refine lv_iload C.x C.b dL_gaskets_668 (lv_at hl 0 rfl) ?_
  refine k_cJ (As := [.int (nI 0), .int (nI 1)]) (rest := []) (c2 := 5188) (s2 := 41912) (v := 309220295180898) (m1 := hS_gaskets_45) C hX (iop_curvature hst hI (nI 0) (nI 1)) (ev_curvature (by decide +kernel) (by decide +kernel)) hI.hd (gl_up inv_X8_curvature) rfl ⟨rfl, hdA_X8_curvature⟩ (by decide) rfl hl.1 rfl (by decide) dL_gaskets_670 ⟨Nat.le_of_ble_eq_true rfl, Nat.le_of_ble_eq_true rfl⟩ ⟨Nat.le_of_ble_eq_true rfl, Nat.le_of_ble_eq_true rfl⟩ rfl rfl (fun f H locs hX hI => ?_)
  refine lv_lload_n C.x C.b dL_gaskets_673 rfl (lv_at hl 1 rfl) ?_
  refine k_lcmp_le (tgt := 688) C.x C.b dL_gaskets_674 dL_gaskets_675 (by decide) (fun q9 => absurd (by decide) q9) (fun _ => ?_)
  refine lv_aload_n C.x C.b dL_gaskets_678 rfl (lv_at hl 3 rfl) ?_
  refine lv_iconst (v := (nI 0)) C.x C.b dL_gaskets_679 (by decide) ?_
  refine lv_iload C.x C.b dL_gaskets_680 (lv_at hl 0 rfl) ?_
  refine k_cJ (As := [.int (nI 0), .int (nI 1)]) (rest := []) (c2 := 5196) (s2 := 41976) (v := 309220295180898) (m1 := hS_gaskets_45) C hX (iop_curvature hst hI (nI 0) (nI 1)) (ev_curvature (by decide +kernel) (by decide +kernel)) hI.hd (gl_up inv_X8_curvature) rfl ⟨rfl, hdA_X8_curvature⟩ (by decide) rfl hl.1 rfl (by decide) dL_gaskets_682 ⟨Nat.le_of_ble_eq_true rfl, Nat.le_of_ble_eq_true rfl⟩ ⟨Nat.le_of_ble_eq_true rfl, Nat.le_of_ble_eq_true rfl⟩ rfl rfl (fun f H locs hX hI => ?_)
  refine lv_goto (tgt := 689) C.x C.b dL_gaskets_685 (by decide) ?_
  refine lv_lstore_n (lv' := [(1, .long 309220295180898), (4, .int (nI 1)), (3, .int (nI 31)), (0, .ref h)]) C.x C.b dL_gaskets_689 rfl hl (by decide) rfl (fun ls hl => ?_)
  refine lv_iinc (v := (nI 2)) (lv' := [(4, .int (nI 2)), (1, .long 309220295180898), (3, .int (nI 31)), (0, .ref h)]) C.x C.b dL_gaskets_690 hl (k := 1) rfl (by decide) (by decide) rfl (fun ls hl => ?_)
  refine lv_goto (tgt := 660) C.x C.b dL_gaskets_693 (by decide) ?_
  refine lv_iload C.x C.b dL_gaskets_660 (lv_at hl 0 rfl) ?_
  refine lv_iconst (v := (nI 4)) C.x C.b dL_gaskets_662 (by decide) ?_
  refine lv_icmp_ge (tgt := 696) C.x C.b dL_gaskets_663 (by decide) (fun q9 => absurd q9 (by decide)) (fun _ => ?_)
  refine lv_aload_n C.x C.b dL_gaskets_666 rfl (lv_at hl 3 rfl) ?_
  refine lv_iconst (v := (nI 0)) C.x C.b dL_gaskets_667 (by decide) ?_
  refine lv_iload C.x C.b dL_gaskets_668 (lv_at hl 0 rfl) ?_
  refine k_cJ (As := [.int (nI 0), .int (nI 2)]) (rest := []) (c2 := 5204) (s2 := 42040) (v := 893663239112610) (m1 := hS_gaskets_45) C hX (iop_curvature hst hI (nI 0) (nI 2)) (ev_curvature (by decide +kernel) (by decide +kernel)) hI.hd (gl_up inv_X8_curvature) rfl ⟨rfl, hdA_X8_curvature⟩ (by decide) rfl hl.1 rfl (by decide) dL_gaskets_670 ⟨Nat.le_of_ble_eq_true rfl, Nat.le_of_ble_eq_true rfl⟩ ⟨Nat.le_of_ble_eq_true rfl, Nat.le_of_ble_eq_true rfl⟩ rfl rfl (fun f H locs hX hI => ?_)
  refine lv_lload_n C.x C.b dL_gaskets_673 rfl (lv_at hl 1 rfl) ?_
  refine k_lcmp_le (tgt := 688) C.x C.b dL_gaskets_674 dL_gaskets_675 (by decide) (fun q9 => absurd (by decide) q9) (fun _ => ?_)
  refine lv_aload_n C.x C.b dL_gaskets_678 rfl (lv_at hl 3 rfl) ?_
  refine lv_iconst (v := (nI 0)) C.x C.b dL_gaskets_679 (by decide) ?_
  refine lv_iload C.x C.b dL_gaskets_680 (lv_at hl 0 rfl) ?_
  refine k_cJ (As := [.int (nI 0), .int (nI 2)]) (rest := []) (c2 := 5212) (s2 := 42104) (v := 893663239112610) (m1 := hS_gaskets_45) C hX (iop_curvature hst hI (nI 0) (nI 2)) (ev_curvature (by decide +kernel) (by decide +kernel)) hI.hd (gl_up inv_X8_curvature) rfl ⟨rfl, hdA_X8_curvature⟩ (by decide) rfl hl.1 rfl (by decide) dL_gaskets_682 ⟨Nat.le_of_ble_eq_true rfl, Nat.le_of_ble_eq_true rfl⟩ ⟨Nat.le_of_ble_eq_true rfl, Nat.le_of_ble_eq_true rfl⟩ rfl rfl (fun f H locs hX hI => ?_)
  refine lv_goto (tgt := 689) C.x C.b dL_gaskets_685 (by decide) ?_
  refine lv_lstore_n (lv' := [(1, .long 893663239112610), (4, .int (nI 2)), (3, .int (nI 31)), (0, .ref h)]) C.x C.b dL_gaskets_689 rfl hl (by decide) rfl (fun ls hl => ?_)
  refine lv_iinc (v := (nI 3)) (lv' := [(4, .int (nI 3)), (1, .long 893663239112610), (3, .int (nI 31)), (0, .ref h)]) C.x C.b dL_gaskets_690 hl (k := 1) rfl (by decide) (by decide) rfl (fun ls hl => ?_)
  refine lv_goto (tgt := 660) C.x C.b dL_gaskets_693 (by decide) ?_
  refine lv_iload C.x C.b dL_gaskets_660 (lv_at hl 0 rfl) ?_
  refine lv_iconst (v := (nI 4)) C.x C.b dL_gaskets_662 (by decide) ?_
  refine lv_icmp_ge (tgt := 696) C.x C.b dL_gaskets_663 (by decide) (fun q9 => absurd q9 (by decide)) (fun _ => ?_)
  refine lv_aload_n C.x C.b dL_gaskets_666 rfl (lv_at hl 3 rfl) ?_
  refine lv_iconst (v := (nI 0)) C.x C.b dL_gaskets_667 (by decide) ?_
  refine lv_iload C.x C.b dL_gaskets_668 (lv_at hl 0 rfl) ?_
  refine k_cJ (As := [.int (nI 0), .int (nI 3)]) (rest := []) (c2 := 5220) (s2 := 42168) (v := 37021685237507) (m1 := hS_gaskets_45) C hX (iop_curvature hst hI (nI 0) (nI 3)) (ev_curvature (by decide +kernel) (by decide +kernel)) hI.hd (gl_up inv_X8_curvature) rfl ⟨rfl, hdA_X8_curvature⟩ (by decide) rfl hl.1 rfl (by decide) dL_gaskets_670 ⟨Nat.le_of_ble_eq_true rfl, Nat.le_of_ble_eq_true rfl⟩ ⟨Nat.le_of_ble_eq_true rfl, Nat.le_of_ble_eq_true rfl⟩ rfl rfl (fun f H locs hX hI => ?_)
  refine lv_lload_n C.x C.b dL_gaskets_673 rfl (lv_at hl 1 rfl) ?_
  refine k_lcmp_le (tgt := 688) C.x C.b dL_gaskets_674 dL_gaskets_675 (by decide) (fun _ => ?_) (fun q9 => absurd q9 (by decide))
  refine lv_lload_n C.x C.b dL_gaskets_688 rfl (lv_at hl 1 rfl) ?_
  refine lv_lstore_n (lv' := [(1, .long 893663239112610), (4, .int (nI 3)), (3, .int (nI 31)), (0, .ref h)]) C.x C.b dL_gaskets_689 rfl hl (by decide) rfl (fun ls hl => ?_)
  refine lv_iinc (v := (nI 4)) (lv' := [(4, .int (nI 4)), (1, .long 893663239112610), (3, .int (nI 31)), (0, .ref h)]) C.x C.b dL_gaskets_690 hl (k := 1) rfl (by decide) (by decide) rfl (fun ls hl => ?_)
  refine lv_goto (tgt := 660) C.x C.b dL_gaskets_693 (by decide) ?_
  refine lv_iload C.x C.b dL_gaskets_660 (lv_at hl 0 rfl) ?_
  refine lv_iconst (v := (nI 4)) C.x C.b dL_gaskets_662 (by decide) ?_
  refine lv_icmp_ge (tgt := 696) C.x C.b dL_gaskets_663 (by decide) (fun _ => ?_) (fun q9 => absurd (by decide) q9)
  refine lv_iload_n C.x C.b dL_gaskets_696 rfl (lv_at hl 2 rfl) ?_
  refine lv_bipush (v := (nI 20)) C.x C.b dL_gaskets_697 (by decide) ?_
  refine lv_icmp_lt (tgt := 764) C.x C.b dL_gaskets_699 (by decide) (fun q9 => absurd q9 (by decide)) (fun _ => ?_)
  refine lv_iload_n C.x C.b dL_gaskets_702 rfl (lv_at hl 2 rfl) ?_
  refine lv_sipush (v := (nI 200)) C.x C.b dL_gaskets_703 (by decide) ?_
  refine lv_icmp_eq (tgt := 764) C.x C.b dL_gaskets_706 (by decide) (fun q9 => absurd q9 (by decide)) (fun _ => ?_)
  refine lv_lload_n C.x C.b dL_gaskets_709 rfl (lv_at hl 1 rfl) ?_
  refine lv_ldc2 (v := 1000000000000000) C.x C.b C.ow (C.ts _ (List.mem_cons_of_mem _ lkC_667)) dL_gaskets_710 ?_
  refine k_lcmp_gt (tgt := 764) C.x C.b dL_gaskets_713 dL_gaskets_714 (by decide) (fun q9 => absurd q9 (by decide)) (fun _ => ?_)
  refine lv_lload_n C.x C.b dL_gaskets_717 rfl (lv_at hl 1 rfl) ?_
  refine lv_ldc2 (v := 100000000000000) C.x C.b C.ow (C.ts _ (List.mem_cons_of_mem _ lkC_668)) dL_gaskets_718 ?_
  refine k_lcmp_lt (tgt := 764) C.x C.b dL_gaskets_721 dL_gaskets_722 (by decide) (fun q9 => absurd q9 (by decide)) (fun _ => ?_)
  refine lv_aload_n C.x C.b dL_gaskets_725 rfl (lv_at hl 3 rfl) ?_
  refine lv_bipush (v := (nI 10)) C.x C.b dL_gaskets_726 (by decide) ?_
  refine lv_iconst (v := (nI 0)) C.x C.b dL_gaskets_728 (by decide) ?_
  refine lv_iload_n C.x C.b dL_gaskets_729 rfl (lv_at hl 2 rfl) ?_
  refine lv_iconst (v := (nI 4)) C.x C.b dL_gaskets_730 (by decide) ?_
  refine lv_irem C.x C.b dL_gaskets_731 (by decide) ?_
  refine k_topi (y := (nI 3)) (by decide) ?_
  refine lv_iconst (v := (nI 0)) C.x C.b dL_gaskets_732 (by decide) ?_
  refine lv_iconst (v := (nI 0)) C.x C.b dL_gaskets_733 (by decide) ?_
  refine k_actJ (As := [.ref h, .int (nI 10), .int (nI 0), .int (nI 3), .int (nI 0), .int (nI 0)]) (rest := []) (c2 := 5228) (s2 := 42232) (v := (-7000003)) (m1 := hS_gaskets_45) C hX (act_10 hI.hd (nI 0) (nI 3) (nI 0) (nI 0) (iop_turn hst hI (nI 0) (nI 3))) (ev_turn_s 0 3 (by decide +kernel) (by decide) (by decide) (by decide +kernel)) (rfl) (gl_up inv_L_act) rfl hl.1 rfl (by decide) dL_gaskets_734 ⟨Nat.le_of_ble_eq_true rfl, Nat.le_of_ble_eq_true rfl⟩ ⟨Nat.le_of_ble_eq_true rfl, Nat.le_of_ble_eq_true rfl⟩ rfl rfl (fun f H locs hX hI => ?_)
  refine lv_ldc2 (v := (-7000003)) C.x C.b C.ow (C.ts _ (List.mem_cons_of_mem _ lkC_4)) dL_gaskets_737 ?_
  refine k_lcmp_ne (tgt := 764) C.x C.b dL_gaskets_740 dL_gaskets_741 (by decide) (fun q9 => absurd (by decide) q9) (fun _ => ?_)
  refine lv_aload_n C.x C.b dL_gaskets_744 rfl (lv_at hl 3 rfl) ?_
  refine lv_iconst (v := (nI 0)) C.x C.b dL_gaskets_745 (by decide) ?_
  refine lv_ldc2 (v := (-1)) C.x C.b C.ow (C.ts _ (List.mem_cons_of_mem _ lkC_653)) dL_gaskets_746 ?_
  refine lv_ldc2 (v := 2) C.x C.b C.ow (C.ts _ (List.mem_cons_of_mem _ lkC_654)) dL_gaskets_749 ?_
  refine lv_ldc2 (v := 2) C.x C.b C.ow (C.ts _ (List.mem_cons_of_mem _ lkC_654)) dL_gaskets_752 ?_
  refine lv_ldc2 (v := 3) C.x C.b C.ow (C.ts _ (List.mem_cons_of_mem _ lkC_655)) dL_gaskets_755 ?_
  refine k_law (As := [.ref h, .int (nI 0), .long (-1), .long 2, .long 2, .long 3]) (rest := []) (c2 := 5308) (s2 := 42872) (m1 := hS_gaskets_45) C hX (pL_roots hst hI (nI 0) (-1) 2 2 3 (ev_root (by decide +kernel) (by decide +kernel)) (ev_root (by decide +kernel) (by decide +kernel)) (ev_root (by decide +kernel) (by decide +kernel)) (ev_root (by decide +kernel) (by decide +kernel))) (gl_up inv_L_roots) rfl rfl rfl hdP_L_roots ⟨Nat.le_of_ble_eq_true rfl, Nat.le_of_ble_eq_true rfl⟩ rfl hl.1 rfl (by decide) dL_gaskets_758 ⟨Nat.le_of_ble_eq_true rfl, Nat.le_of_ble_eq_true rfl⟩ rfl rfl (fun f H locs hX hI => ?_)
  refine lv_if_ne (tgt := 766) C.x C.b dL_gaskets_761 (by decide) (fun _ => ?_) (fun q9 => absurd q9 (by decide))
  refine lv_iconst (v := (nI 4)) C.x C.b dL_gaskets_766 (by decide) ?_
  refine lv_istore (lv' := [(4, .int (nI 4)), (1, .long 893663239112610), (3, .int (nI 31)), (0, .ref h)]) C.x C.b dL_gaskets_767 hl (by decide) rfl (fun ls hl => ?_)
  refine lv_iload C.x C.b dL_gaskets_769 (lv_at hl 0 rfl) ?_
  refine lv_bipush (v := (nI 9)) C.x C.b dL_gaskets_771 (by decide) ?_
  refine lv_icmp_ge (tgt := 813) C.x C.b dL_gaskets_773 (by decide) (fun q9 => absurd q9 (by decide)) (fun _ => ?_)
  refine lv_aload_n C.x C.b dL_gaskets_776 rfl (lv_at hl 3 rfl) ?_
  refine lv_bipush (v := (nI 9)) C.x C.b dL_gaskets_777 (by decide) ?_
  refine lv_iconst (v := (nI 2)) C.x C.b dL_gaskets_779 (by decide) ?_
  refine lv_iconst (v := (-1)) C.x C.b dL_gaskets_780 (by decide) ?_
  refine lv_iconst (v := (nI 3)) C.x C.b dL_gaskets_781 (by decide) ?_
  refine lv_iconst (v := (nI 2)) C.x C.b dL_gaskets_782 (by decide) ?_
  refine k_actI (As := [.ref h, .int (nI 9), .int (nI 2), .int (-1), .int (nI 3), .int (nI 2)]) (rest := []) (c2 := 5316) (s2 := 42936) (v := 4) (m1 := _) C hX (act_9 hI.hd (nI 2) (-1) (nI 3) (nI 2) (iop_gasket hst hI (nI 2) (-1) (nI 3) (nI 2))) (ev_gasket 4 (by decide +kernel) (by decide) rfl rfl) (rfl) (gl_up inv_L_act) rfl hl.1 rfl (by decide) dL_gaskets_783 ⟨Nat.le_of_ble_eq_true rfl, Nat.le_of_ble_eq_true rfl⟩ ⟨Nat.le_of_ble_eq_true rfl, Nat.le_of_ble_eq_true rfl⟩ rfl rfl (fun f H locs hX hI => ?_)
  have hI : Inv G h f hS_gaskets_46 := hI.cg (hL [106994656115327, 309220295180898, 893663239112610, 37021685237507, 4, 1, 1, 0, 3, 6, 7, (-2), (-6), 11, 14, 15, 2, (-1), 3, 2, 0, 0, 0, 0, 0, 0, 0, 0, 0, 0, 0, 0]) (hL [(-1), 2, 2, 3, 0, 0, 1, 1, (-2), 3, 6, 7, (-6), 11, 14, 15, (-1), 2, 2, 3, 0, 0, 0, 0, 0, 0, 0, 0, 0, 0, 0, 0]) (hL [1, 0, 0, 1]) (hE [0, 0, 0, 0, 0, 0, 0, 0, 0, 0]) (hE [0, 0, 0, 0, 0, 0, 0, 0, 0, 0]) ⟨by decide +kernel, by decide +kernel, by decide +kernel⟩
  refine lv_iload C.x C.b dL_gaskets_786 (lv_at hl 0 rfl) ?_
  refine lv_bipush (v := (nI 8)) C.x C.b dL_gaskets_788 (by decide) ?_
  refine lv_icmp_ge (tgt := 798) C.x C.b dL_gaskets_790 (by decide) (fun q9 => absurd q9 (by decide)) (fun _ => ?_)
  refine lv_iload C.x C.b dL_gaskets_793 (lv_at hl 0 rfl) ?_
  refine lv_goto (tgt := 800) C.x C.b dL_gaskets_795 (by decide) ?_
  refine lv_i2l (v := (nI 4).toInt64) C.x C.b dL_gaskets_800 rfl ?_
  refine k_topl (y := 4) (by decide) ?_
  refine k_lcmp_eq (tgt := 807) C.x C.b dL_gaskets_801 dL_gaskets_802 (by decide) (fun _ => ?_) (fun q9 => absurd (by decide) q9)
  refine lv_iinc (v := (nI 5)) (lv' := [(4, .int (nI 5)), (1, .long 893663239112610), (3, .int (nI 31)), (0, .ref h)]) C.x C.b dL_gaskets_807 hl (k := 0) rfl (by decide) (by decide) rfl (fun ls hl => ?_)
  refine lv_goto (tgt := 769) C.x C.b dL_gaskets_810 (by decide) ?_
  refine lv_iload C.x C.b dL_gaskets_769 (lv_at hl 0 rfl) ?_
  refine lv_bipush (v := (nI 9)) C.x C.b dL_gaskets_771 (by decide) ?_
  refine lv_icmp_ge (tgt := 813) C.x C.b dL_gaskets_773 (by decide) (fun q9 => absurd q9 (by decide)) (fun _ => ?_)
  refine lv_aload_n C.x C.b dL_gaskets_776 rfl (lv_at hl 3 rfl) ?_
  refine lv_bipush (v := (nI 9)) C.x C.b dL_gaskets_777 (by decide) ?_
  refine lv_iconst (v := (nI 2)) C.x C.b dL_gaskets_779 (by decide) ?_
  refine lv_iconst (v := (-1)) C.x C.b dL_gaskets_780 (by decide) ?_
  refine lv_iconst (v := (nI 3)) C.x C.b dL_gaskets_781 (by decide) ?_
  refine lv_iconst (v := (nI 2)) C.x C.b dL_gaskets_782 (by decide) ?_
  refine k_actI (As := [.ref h, .int (nI 9), .int (nI 2), .int (-1), .int (nI 3), .int (nI 2)]) (rest := []) (c2 := 5324) (s2 := 43000) (v := 5) (m1 := _) C hX (act_9 hI.hd (nI 2) (-1) (nI 3) (nI 2) (iop_gasket hst hI (nI 2) (-1) (nI 3) (nI 2))) (ev_gasket 5 (by decide +kernel) (by decide) rfl rfl) (rfl) (gl_up inv_L_act) rfl hl.1 rfl (by decide) dL_gaskets_783 ⟨Nat.le_of_ble_eq_true rfl, Nat.le_of_ble_eq_true rfl⟩ ⟨Nat.le_of_ble_eq_true rfl, Nat.le_of_ble_eq_true rfl⟩ rfl rfl (fun f H locs hX hI => ?_)
  have hI : Inv G h f hS_gaskets_47 := hI.cg (hL [106994656115327, 309220295180898, 893663239112610, 37021685237507, 4, 1, 1, 0, 3, 6, 7, (-2), (-6), 11, 14, 15, 2, (-1), 3, 2, 2, (-1), 3, 2, 0, 0, 0, 0, 0, 0, 0, 0]) (hL [(-1), 2, 2, 3, 0, 0, 1, 1, (-2), 3, 6, 7, (-6), 11, 14, 15, (-1), 2, 2, 3, (-1), 2, 2, 3, 0, 0, 0, 0, 0, 0, 0, 0]) (hL [1, 0, 0, 1]) (hE [0, 0, 0, 0, 0, 0, 0, 0, 0, 0]) (hE [0, 0, 0, 0, 0, 0, 0, 0, 0, 0]) ⟨by decide +kernel, by decide +kernel, by decide +kernel⟩
  refine lv_iload C.x C.b dL_gaskets_786 (lv_at hl 0 rfl) ?_
  refine lv_bipush (v := (nI 8)) C.x C.b dL_gaskets_788 (by decide) ?_
  refine lv_icmp_ge (tgt := 798) C.x C.b dL_gaskets_790 (by decide) (fun q9 => absurd q9 (by decide)) (fun _ => ?_)
  refine lv_iload C.x C.b dL_gaskets_793 (lv_at hl 0 rfl) ?_
  refine lv_goto (tgt := 800) C.x C.b dL_gaskets_795 (by decide) ?_
  refine lv_i2l (v := (nI 5).toInt64) C.x C.b dL_gaskets_800 rfl ?_
  refine k_topl (y := 5) (by decide) ?_
  refine k_lcmp_eq (tgt := 807) C.x C.b dL_gaskets_801 dL_gaskets_802 (by decide) (fun _ => ?_) (fun q9 => absurd (by decide) q9)
  refine lv_iinc (v := (nI 6)) (lv' := [(4, .int (nI 6)), (1, .long 893663239112610), (3, .int (nI 31)), (0, .ref h)]) C.x C.b dL_gaskets_807 hl (k := 0) rfl (by decide) (by decide) rfl (fun ls hl => ?_)
  refine lv_goto (tgt := 769) C.x C.b dL_gaskets_810 (by decide) ?_
  refine lv_iload C.x C.b dL_gaskets_769 (lv_at hl 0 rfl) ?_
  refine lv_bipush (v := (nI 9)) C.x C.b dL_gaskets_771 (by decide) ?_
  refine lv_icmp_ge (tgt := 813) C.x C.b dL_gaskets_773 (by decide) (fun q9 => absurd q9 (by decide)) (fun _ => ?_)
  refine lv_aload_n C.x C.b dL_gaskets_776 rfl (lv_at hl 3 rfl) ?_
  refine lv_bipush (v := (nI 9)) C.x C.b dL_gaskets_777 (by decide) ?_
  refine lv_iconst (v := (nI 2)) C.x C.b dL_gaskets_779 (by decide) ?_
  refine lv_iconst (v := (-1)) C.x C.b dL_gaskets_780 (by decide) ?_
  refine lv_iconst (v := (nI 3)) C.x C.b dL_gaskets_781 (by decide) ?_
  refine lv_iconst (v := (nI 2)) C.x C.b dL_gaskets_782 (by decide) ?_
  refine k_actI (As := [.ref h, .int (nI 9), .int (nI 2), .int (-1), .int (nI 3), .int (nI 2)]) (rest := []) (c2 := 5332) (s2 := 43064) (v := 6) (m1 := _) C hX (act_9 hI.hd (nI 2) (-1) (nI 3) (nI 2) (iop_gasket hst hI (nI 2) (-1) (nI 3) (nI 2))) (ev_gasket 6 (by decide +kernel) (by decide) rfl rfl) (rfl) (gl_up inv_L_act) rfl hl.1 rfl (by decide) dL_gaskets_783 ⟨Nat.le_of_ble_eq_true rfl, Nat.le_of_ble_eq_true rfl⟩ ⟨Nat.le_of_ble_eq_true rfl, Nat.le_of_ble_eq_true rfl⟩ rfl rfl (fun f H locs hX hI => ?_)
  have hI : Inv G h f hS_gaskets_48 := hI.cg (hL [106994656115327, 309220295180898, 893663239112610, 37021685237507, 4, 1, 1, 0, 3, 6, 7, (-2), (-6), 11, 14, 15, 2, (-1), 3, 2, 2, (-1), 3, 2, 2, (-1), 3, 2, 0, 0, 0, 0]) (hL [(-1), 2, 2, 3, 0, 0, 1, 1, (-2), 3, 6, 7, (-6), 11, 14, 15, (-1), 2, 2, 3, (-1), 2, 2, 3, (-1), 2, 2, 3, 0, 0, 0, 0]) (hL [1, 0, 0, 1]) (hE [0, 0, 0, 0, 0, 0, 0, 0, 0, 0]) (hE [0, 0, 0, 0, 0, 0, 0, 0, 0, 0]) ⟨by decide +kernel, by decide +kernel, by decide +kernel⟩
  refine lv_iload C.x C.b dL_gaskets_786 (lv_at hl 0 rfl) ?_
  refine lv_bipush (v := (nI 8)) C.x C.b dL_gaskets_788 (by decide) ?_
  refine lv_icmp_ge (tgt := 798) C.x C.b dL_gaskets_790 (by decide) (fun q9 => absurd q9 (by decide)) (fun _ => ?_)
  refine lv_iload C.x C.b dL_gaskets_793 (lv_at hl 0 rfl) ?_
  refine lv_goto (tgt := 800) C.x C.b dL_gaskets_795 (by decide) ?_
  refine lv_i2l (v := (nI 6).toInt64) C.x C.b dL_gaskets_800 rfl ?_
  refine k_topl (y := 6) (by decide) ?_
  refine k_lcmp_eq (tgt := 807) C.x C.b dL_gaskets_801 dL_gaskets_802 (by decide) (fun _ => ?_) (fun q9 => absurd (by decide) q9)
  refine lv_iinc (v := (nI 7)) (lv' := [(4, .int (nI 7)), (1, .long 893663239112610), (3, .int (nI 31)), (0, .ref h)]) C.x C.b dL_gaskets_807 hl (k := 0) rfl (by decide) (by decide) rfl (fun ls hl => ?_)
  refine lv_goto (tgt := 769) C.x C.b dL_gaskets_810 (by decide) ?_
  refine lv_iload C.x C.b dL_gaskets_769 (lv_at hl 0 rfl) ?_
  refine lv_bipush (v := (nI 9)) C.x C.b dL_gaskets_771 (by decide) ?_
  refine lv_icmp_ge (tgt := 813) C.x C.b dL_gaskets_773 (by decide) (fun q9 => absurd q9 (by decide)) (fun _ => ?_)
  refine lv_aload_n C.x C.b dL_gaskets_776 rfl (lv_at hl 3 rfl) ?_
  refine lv_bipush (v := (nI 9)) C.x C.b dL_gaskets_777 (by decide) ?_
  refine lv_iconst (v := (nI 2)) C.x C.b dL_gaskets_779 (by decide) ?_
  refine lv_iconst (v := (-1)) C.x C.b dL_gaskets_780 (by decide) ?_
  refine lv_iconst (v := (nI 3)) C.x C.b dL_gaskets_781 (by decide) ?_
  refine lv_iconst (v := (nI 2)) C.x C.b dL_gaskets_782 (by decide) ?_
  refine k_actI (As := [.ref h, .int (nI 9), .int (nI 2), .int (-1), .int (nI 3), .int (nI 2)]) (rest := []) (c2 := 5340) (s2 := 43128) (v := 7) (m1 := _) C hX (act_9 hI.hd (nI 2) (-1) (nI 3) (nI 2) (iop_gasket hst hI (nI 2) (-1) (nI 3) (nI 2))) (ev_gasket 7 (by decide +kernel) (by decide) rfl rfl) (rfl) (gl_up inv_L_act) rfl hl.1 rfl (by decide) dL_gaskets_783 ⟨Nat.le_of_ble_eq_true rfl, Nat.le_of_ble_eq_true rfl⟩ ⟨Nat.le_of_ble_eq_true rfl, Nat.le_of_ble_eq_true rfl⟩ rfl rfl (fun f H locs hX hI => ?_)
  have hI : Inv G h f hS_gaskets_49 := hI.cg (hL [106994656115327, 309220295180898, 893663239112610, 37021685237507, 4, 1, 1, 0, 3, 6, 7, (-2), (-6), 11, 14, 15, 2, (-1), 3, 2, 2, (-1), 3, 2, 2, (-1), 3, 2, 2, (-1), 3, 2]) (hL [(-1), 2, 2, 3, 0, 0, 1, 1, (-2), 3, 6, 7, (-6), 11, 14, 15, (-1), 2, 2, 3, (-1), 2, 2, 3, (-1), 2, 2, 3, (-1), 2, 2, 3]) (hL [1, 0, 0, 1]) (hE [0, 0, 0, 0, 0, 0, 0, 0, 0, 0]) (hE [0, 0, 0, 0, 0, 0, 0, 0, 0, 0]) ⟨by decide +kernel, by decide +kernel, by decide +kernel⟩
  refine lv_iload C.x C.b dL_gaskets_786 (lv_at hl 0 rfl) ?_
  refine lv_bipush (v := (nI 8)) C.x C.b dL_gaskets_788 (by decide) ?_
  refine lv_icmp_ge (tgt := 798) C.x C.b dL_gaskets_790 (by decide) (fun q9 => absurd q9 (by decide)) (fun _ => ?_)
  refine lv_iload C.x C.b dL_gaskets_793 (lv_at hl 0 rfl) ?_
  refine lv_goto (tgt := 800) C.x C.b dL_gaskets_795 (by decide) ?_
  refine lv_i2l (v := (nI 7).toInt64) C.x C.b dL_gaskets_800 rfl ?_
  refine k_topl (y := 7) (by decide) ?_
  refine k_lcmp_eq (tgt := 807) C.x C.b dL_gaskets_801 dL_gaskets_802 (by decide) (fun _ => ?_) (fun q9 => absurd (by decide) q9)
  refine lv_iinc (v := (nI 8)) (lv' := [(4, .int (nI 8)), (1, .long 893663239112610), (3, .int (nI 31)), (0, .ref h)]) C.x C.b dL_gaskets_807 hl (k := 0) rfl (by decide) (by decide) rfl (fun ls hl => ?_)
  refine lv_goto (tgt := 769) C.x C.b dL_gaskets_810 (by decide) ?_
  refine lv_iload C.x C.b dL_gaskets_769 (lv_at hl 0 rfl) ?_
  refine lv_bipush (v := (nI 9)) C.x C.b dL_gaskets_771 (by decide) ?_
  refine lv_icmp_ge (tgt := 813) C.x C.b dL_gaskets_773 (by decide) (fun q9 => absurd q9 (by decide)) (fun _ => ?_)
  refine lv_aload_n C.x C.b dL_gaskets_776 rfl (lv_at hl 3 rfl) ?_
  refine lv_bipush (v := (nI 9)) C.x C.b dL_gaskets_777 (by decide) ?_
  refine lv_iconst (v := (nI 2)) C.x C.b dL_gaskets_779 (by decide) ?_
  refine lv_iconst (v := (-1)) C.x C.b dL_gaskets_780 (by decide) ?_
  refine lv_iconst (v := (nI 3)) C.x C.b dL_gaskets_781 (by decide) ?_
  refine lv_iconst (v := (nI 2)) C.x C.b dL_gaskets_782 (by decide) ?_
  refine k_actI (As := [.ref h, .int (nI 9), .int (nI 2), .int (-1), .int (nI 3), .int (nI 2)]) (rest := []) (c2 := 5348) (s2 := 43192) (v := (-7000003)) (m1 := hS_gaskets_49) C hX (act_9 hI.hd (nI 2) (-1) (nI 3) (nI 2) (iop_gasket hst hI (nI 2) (-1) (nI 3) (nI 2))) (e_gasket_s (by decide +kernel) (by decide +kernel)) (rfl) (gl_up inv_L_act) rfl hl.1 rfl (by decide) dL_gaskets_783 ⟨Nat.le_of_ble_eq_true rfl, Nat.le_of_ble_eq_true rfl⟩ ⟨Nat.le_of_ble_eq_true rfl, Nat.le_of_ble_eq_true rfl⟩ rfl rfl (fun f H locs hX hI => ?_)
  refine lv_iload C.x C.b dL_gaskets_786 (lv_at hl 0 rfl) ?_
  refine lv_bipush (v := (nI 8)) C.x C.b dL_gaskets_788 (by decide) ?_
  refine lv_icmp_ge (tgt := 798) C.x C.b dL_gaskets_790 (by decide) (fun _ => ?_) (fun q9 => absurd (by decide) q9)
  refine lv_ldc (v := (-7000003)) C.x C.b C.ow (C.ts _ (List.mem_cons_of_mem _ lkC_3)) dL_gaskets_798 ?_
  refine lv_i2l (v := (-7000003).toInt64) C.x C.b dL_gaskets_800 rfl ?_
  refine k_topl (y := (-7000003)) (by decide) ?_
  refine k_lcmp_eq (tgt := 807) C.x C.b dL_gaskets_801 dL_gaskets_802 (by decide) (fun _ => ?_) (fun q9 => absurd (by decide) q9)
  refine lv_iinc (v := (nI 9)) (lv' := [(4, .int (nI 9)), (1, .long 893663239112610), (3, .int (nI 31)), (0, .ref h)]) C.x C.b dL_gaskets_807 hl (k := 0) rfl (by decide) (by decide) rfl (fun ls hl => ?_)
  refine lv_goto (tgt := 769) C.x C.b dL_gaskets_810 (by decide) ?_
  refine lv_iload C.x C.b dL_gaskets_769 (lv_at hl 0 rfl) ?_
  refine lv_bipush (v := (nI 9)) C.x C.b dL_gaskets_771 (by decide) ?_
  refine lv_icmp_ge (tgt := 813) C.x C.b dL_gaskets_773 (by decide) (fun _ => ?_) (fun q9 => absurd (by decide) q9)
  refine lv_aload_n C.x C.b dL_gaskets_813 rfl (lv_at hl 3 rfl) ?_
  refine lv_bipush (v := (nI 7)) C.x C.b dL_gaskets_814 (by decide) ?_
  refine lv_ldc2 (v := (-1)) C.x C.b C.ow (C.ts _ (List.mem_cons_of_mem _ lkC_653)) dL_gaskets_816 ?_
  refine lv_ldc2 (v := 2) C.x C.b C.ow (C.ts _ (List.mem_cons_of_mem _ lkC_654)) dL_gaskets_819 ?_
  refine lv_ldc2 (v := 2) C.x C.b C.ow (C.ts _ (List.mem_cons_of_mem _ lkC_654)) dL_gaskets_822 ?_
  refine lv_ldc2 (v := 3) C.x C.b C.ow (C.ts _ (List.mem_cons_of_mem _ lkC_655)) dL_gaskets_825 ?_
  refine k_law (As := [.ref h, .int (nI 7), .long (-1), .long 2, .long 2, .long 3]) (rest := []) (c2 := 5428) (s2 := 43832) (m1 := hS_gaskets_49) C hX (pL_roots hst hI (nI 7) (-1) 2 2 3 (ev_root (by decide +kernel) (by decide +kernel)) (ev_root (by decide +kernel) (by decide +kernel)) (ev_root (by decide +kernel) (by decide +kernel)) (ev_root (by decide +kernel) (by decide +kernel))) (gl_up inv_L_roots) rfl rfl rfl hdP_L_roots ⟨Nat.le_of_ble_eq_true rfl, Nat.le_of_ble_eq_true rfl⟩ rfl hl.1 rfl (by decide) dL_gaskets_828 ⟨Nat.le_of_ble_eq_true rfl, Nat.le_of_ble_eq_true rfl⟩ rfl rfl (fun f H locs hX hI => ?_)
  refine lv_if_eq (tgt := 852) C.x C.b dL_gaskets_831 (by decide) (fun q9 => absurd q9 (by decide)) (fun _ => ?_)
  refine lv_aload_n C.x C.b dL_gaskets_834 rfl (lv_at hl 3 rfl) ?_
  refine lv_bipush (v := (nI 7)) C.x C.b dL_gaskets_835 (by decide) ?_
  refine lv_iconst (v := (nI 1)) C.x C.b dL_gaskets_837 (by decide) ?_
  refine k_cJ (As := [.int (nI 7), .int (nI 1)]) (rest := []) (c2 := 5436) (s2 := 43896) (v := (-1)) (m1 := hS_gaskets_49) C hX (iop_curvature hst hI (nI 7) (nI 1)) (ev_curvature (by decide +kernel) (by decide +kernel)) hI.hd (gl_up inv_X8_curvature) rfl ⟨rfl, hdA_X8_curvature⟩ (by decide) rfl hl.1 rfl (by decide) dL_gaskets_838 ⟨Nat.le_of_ble_eq_true rfl, Nat.le_of_ble_eq_true rfl⟩ ⟨Nat.le_of_ble_eq_true rfl, Nat.le_of_ble_eq_true rfl⟩ rfl rfl (fun f H locs hX hI => ?_)
  refine lv_ldc2 (v := (-1)) C.x C.b C.ow (C.ts _ (List.mem_cons_of_mem _ lkC_653)) dL_gaskets_841 ?_
  refine k_lcmp_ne (tgt := 852) C.x C.b dL_gaskets_844 dL_gaskets_845 (by decide) (fun q9 => absurd (by decide) q9) (fun _ => ?_)
  refine lv_iconst (v := (nI 1)) C.x C.b dL_gaskets_848 (by decide) ?_
  refine lv_goto (tgt := 853) C.x C.b dL_gaskets_849 (by decide) ?_
  exact k_zret C hX hr hlocks hQ (Nat.le_of_ble_eq_true rfl) (Nat.le_of_ble_eq_true rfl) (Or.inr rfl) ⟨rfl, trivial⟩ dL_gaskets_853
