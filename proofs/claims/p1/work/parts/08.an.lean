def an_end (n : Int32) : Int32 := if n = 0 then 1 else 0
def an_fault (w : Int32) : Int32 := if w = 0 then 0 else -1
def an_use (n : Int32) : Int32 := if n = 0 then 1 else 0
def an_slack (n : Int32) : Int32 := if n = 0 then 1 else if n = 1 then 1 else 0
def an_orders (n : Int32) (w : Int32) : Int32 := if n = 1 then (if w = 0 then 0 else if w = 1 then 0 else -1) else if n = 2 then (if w = 0 then 0 else if w = 1 then 0 else -1) else -1
def an_parts (a : Int32) (b : Int32) (n : Int32) : Int32 := if a = 0 then (if b = 0 then (if n = 1 then -1 else if n = 2 then -1 else if n = 3 then -1 else -2) else -2) else -2
def an_fewest (n : Int32) : Int32 := if n = 1 then 0 else if n = 2 then 0 else -1
def an_fits (n : Int32) : Int32 := if n = 0 then 1 else -1
def an_image (n : Int32) : Int32 := if n = 0 then 0 else 1
def an_look (w : Int32) : Int32 := if w = 0 then 0 else if w = 1 then 0 else if w = 2 then 0 else if w = 3 then 0 else if w = 4 then 0 else if w = 5 then 0 else if w = 6 then 1 else if w = 7 then 0 else if w = 10 then 0 else if w = 11 then 0 else if w = 12 then 0 else if w = 13 then 0 else if w = 14 then 0 else if w = 15 then 0 else -1
